set_option maxHeartbeats 4000000 in
set_option maxRecDepth 100000 in
theorem tX12_write (l : Launch) (dC : Nat → ClassId) (dI : Nat → Nat → Nat) (cy : Nat → ClassId) (ad : Nat → Nat) (σ : S2) (a1 : Int32) (a2 : Int32) (sz : Nat) (r0 : Int32) (σ9 : S2) (h : fX12_write σ a1 a2 = some (r0, σ9)) : Met l yX12_write wsX12_write ({ frames := 6, cells := 0, slots := 0, locals := 144 }) (va_Pc [.ref (ad 0), .int a1, .int a2] (wPre (dC, dI) cy (wG (cM cy ad) ad 40 σ) sz)) (va_Qi (fun (r : Int32) (_ : Unit) => r = r0) (fun (_ : Unit) t => wAt (dC, dI) (va_A (wG (cM cy ad) ad 40 σ) sz) (wG (cM cy ad) ad 40 σ9) t) (va_A (wG (cM cy ad) ad 40 σ) sz)) 0 0 (va_A (wG (cM cy ad) ad 40 σ) sz) := by
  refine Met.ofW (cc := cX12_write) (maxL := 7) (ret := (some .int)) (by decide) rfl ?_
  intro p e s m args below meth c s₁ B hml hv
  obtain ⟨rfl, hsz, hP, hK, hD0, hN⟩ := hv
  have hx := B.exec
  have hb := B.bytes
  have hr := B.returns
  have hts := atoms_spec (ws := wsX12_write) B.pre
  have hown : s.vm.findClass RX12 = some m.cls := findClass_of_methodNamed B.named
  have hlocks := B.notSynchronized
  subst hsz
  have hD := hD0.self (sz := s.heap.size)
  generalize hAe : va_A (wG (cM cy ad) ad 40 σ) s.heap.size = A at hD ⊢
  have hA : ∀ q : Nat, s.heap.size ≤ q → A q := fun q h => by rw [← hAe]; exact Or.inr h
  have hS : va_S A s.heap s.heap [] := va_S.rf
  have hl := lv_entry ([.ref (ad 0), .int a1, .int a2]) (n := 7) (Nat.le_of_ble_eq_true rfl)
  rw [lg_entry_eq]
  generalize (lg_sl ([.ref (ad 0), .int a1, .int a2]) ++ List.replicate (7 - (lg_sl ([.ref (ad 0), .int a1, .int a2])).length) Slot.unset).toArray = ls at hl ⊢
  have hl : lv_has ls 7 [(0, .ref (ad 0)), (1, .int a1), (2, .int a2)] := hl
  unfold fX12_write at h
  clear hAe hD0
  suffices HH : ∀ (H : Heap) (locs : List Loc) (ls : Array Slot), fX12_write_0 σ a1 a2 = some (r0, σ9) → va_P (dC, dI) vwCl (wG (cM cy ad) ad 40 σ) H → va_D A (wG (cM cy ad) ad 40 σ) → va_S A s.heap H locs → lv_has ls 7 [(0, .ref (ad 0)), (1, .int a1), (2, .int a2)] → W p l e (headSpec wsX12_write ({ frames := 6, cells := 0, slots := 0, locals := 144 })).room s m (#[.ref (ad 0), .int a1, .int a2]) below meth c H locs 0 0 (MQ below (va_Qi (fun (r : Int32) (_ : Unit) => r = r0) (fun (_ : Unit) t => wAt (dC, dI) A (wG (cM cy ad) ad 40 σ9) t) A) (#[.ref (ad 0), .int a1, .int a2]) s 0 0 A) (F0 m 0 ls []) from HH s.heap [] ls h hP hD hS hl
  have w175 : ∀ (k80 : S2 → Int32 → Int32 → Int32 → Int32 → Option (Int32 × S2)) (hk80 : ∀ (σ : S2) (x2 : Int32) (x3 : Int32) (x4 : Int32) (x5 : Int32) (H : Heap) (locs : List Loc) (ls : Array Slot), k80 σ x2 x3 x4 x5 = some (r0, σ9) → va_P (dC, dI) vwCl (wG (cM cy ad) ad 40 σ) H → va_D A (wG (cM cy ad) ad 40 σ) → va_S A s.heap H locs → lv_has ls 7 [(0, .ref (ad 0)), (2, .int x2), (3, .int x3), (4, .int x4), (5, .int x5)] → W p l e (headSpec wsX12_write ({ frames := 6, cells := 0, slots := 0, locals := 144 })).room s m (#[.ref (ad 0), .int a1, .int a2]) below meth c H locs 0 0 (MQ below (va_Qi (fun (r : Int32) (_ : Unit) => r = r0) (fun (_ : Unit) t => wAt (dC, dI) A (wG (cM cy ad) ad 40 σ9) t) A) (#[.ref (ad 0), .int a1, .int a2]) s 0 0 A) (F0 m 80 ls [])) , ∀ (σ : S2) (x2 : Int32) (x3 : Int32) (x4 : Int32) (x5 : Int32) (H : Heap) (locs : List Loc) (ls : Array Slot), fX12_write_175 k80 σ x2 x3 x4 x5 = some (r0, σ9) → va_P (dC, dI) vwCl (wG (cM cy ad) ad 40 σ) H → va_D A (wG (cM cy ad) ad 40 σ) → va_S A s.heap H locs → lv_has ls 7 [(0, .ref (ad 0)), (2, .int x2), (3, .int x3), (4, .int x4), (5, .int x5)] → W p l e (headSpec wsX12_write ({ frames := 6, cells := 0, slots := 0, locals := 144 })).room s m (#[.ref (ad 0), .int a1, .int a2]) below meth c H locs 0 0 (MQ below (va_Qi (fun (r : Int32) (_ : Unit) => r = r0) (fun (_ : Unit) t => wAt (dC, dI) A (wG (cM cy ad) ad 40 σ9) t) A) (#[.ref (ad 0), .int a1, .int a2]) s 0 0 A) (F0 m 175 ls []) := by
    intro k80 hk80 σ x2 x3 x4 x5 H locs ls h hP hD hS hl
    unfold fX12_write_175 at h
    obtain ⟨v1, ev1⟩ : ∃ y : Int32, y = x5 + 1 := ⟨_, rfl⟩
    have h := nmS h ev1
    refine lv_iinc (v := v1) (lv' := [(5, .int v1), (0, .ref (ad 0)), (2, .int x2), (3, .int x3), (4, .int x4)]) hx hb dX12_write_175 hl (k := 4) rfl (by rw [ev1]; rfl) (by decide) rfl (fun ls hl => ?_)
    have hl := lv_sub hl [1, 2, 3, 4, 0] (l' := [(0, .ref (ad 0)), (2, .int x2), (3, .int x3), (4, .int x4), (5, .int v1)]) rfl
    refine lv_goto (tgt := 80) hx hb dX12_write_178 (by decide) ?_
    exact hk80 σ x2 x3 x4 v1 H locs ls h hP hD hS hl
  have w80 : ∀ (n : Nat), ∀ (σ : S2) (x2 : Int32) (x3 : Int32) (x4 : Int32) (x5 : Int32) (H : Heap) (locs : List Loc) (ls : Array Slot), fX12_write_80 n σ x2 x3 x4 x5 = some (r0, σ9) → va_P (dC, dI) vwCl (wG (cM cy ad) ad 40 σ) H → va_D A (wG (cM cy ad) ad 40 σ) → va_S A s.heap H locs → lv_has ls 7 [(0, .ref (ad 0)), (2, .int x2), (3, .int x3), (4, .int x4), (5, .int x5)] → W p l e (headSpec wsX12_write ({ frames := 6, cells := 0, slots := 0, locals := 144 })).room s m (#[.ref (ad 0), .int a1, .int a2]) below meth c H locs 0 0 (MQ below (va_Qi (fun (r : Int32) (_ : Unit) => r = r0) (fun (_ : Unit) t => wAt (dC, dI) A (wG (cM cy ad) ad 40 σ9) t) A) (#[.ref (ad 0), .int a1, .int a2]) s 0 0 A) (F0 m 80 ls []) := by
    intro n
    induction n with
    | zero => intro σ x2 x3 x4 x5 H locs ls h; cases h
    | succ n ih =>
    intro σ x2 x3 x4 x5 H locs ls h hP hD hS hl
    unfold fX12_write_80 at h
    refine lv_iload hx hb dX12_write_80 (lv_at hl 4 rfl) ?_
    refine lv_aload_n hx hb dX12_write_82 rfl (lv_at hl 0 rfl) ?_
    refine ux_get (D := (dC, dI)) (ci := 12) (v := .int (σ.1 0 55)) (C := RX12) (T := TX12) (M := 59) (fs := (oM ad (σ.1 0))) hx hb hts (fun _ h9 => List.mem_cons_of_mem _ (List.mem_append_right _ h9)) hown hK hP 0 (Nat.le_of_ble_eq_true rfl) rfl rfl 55 (by decide) (hts (.fieldLink RX12 250 "SeatsRoundModel" "chosenMany" "I") (List.mem_of_getElem? (i := 4) rfl)) (fun _ h9 => h9) rfl dX12_write_83 ?_
    refine lv_icmp_ge (tgt := 181) hx hb dX12_write_86 (by decide) (fun hcd => ?_) (fun hcd => ?_)
    · have h := cdP hcd h
      refine lv_iload hx hb dX12_write_181 (lv_at hl 3 rfl) ?_
      exact ux_iret hx hb hr h hP hD hS hlocks dX12_write_183
    · have h := cdN hcd h
      refine lv_aload_n hx hb dX12_write_89 rfl (lv_at hl 0 rfl) ?_
      refine ux_get (D := (dC, dI)) (ci := 12) (v := .ref (ad 36)) (C := RX12) (T := TX12) (M := 59) (fs := (oM ad (σ.1 0))) hx hb hts (fun _ h9 => List.mem_cons_of_mem _ (List.mem_append_right _ h9)) hown hK hP 0 (Nat.le_of_ble_eq_true rfl) rfl rfl 54 (by decide) (hts (.fieldLink RX12 121 "SeatsRoundModel" "chosen" "[I") (List.mem_of_getElem? (i := 5) rfl)) (fun _ h9 => h9) rfl dX12_write_90 ?_
      refine lv_iload hx hb dX12_write_93 (lv_at hl 4 rfl) ?_
      refine ux_iald hx hb hK hP 36 0 (Nat.le_of_ble_eq_true rfl) (cM_36 _ _ _ _) rfl h dX12_write_95 (fun v2 h => ?_)
      refine lv_istore (lv' := [(6, .int v2), (0, .ref (ad 0)), (2, .int x2), (3, .int x3), (4, .int x4), (5, .int x5)]) hx hb dX12_write_96 hl (by decide) rfl (fun ls hl => ?_)
      have hl := lv_sub hl [1, 2, 3, 4, 5, 0] (l' := [(0, .ref (ad 0)), (2, .int x2), (3, .int x3), (4, .int x4), (5, .int x5), (6, .int v2)]) rfl
      refine lv_aload_n hx hb dX12_write_98 rfl (lv_at hl 0 rfl) ?_
      refine ux_get (D := (dC, dI)) (ci := 12) (v := .ref (ad 7)) (C := RX12) (T := TX12) (M := 59) (fs := (oM ad (σ.1 0))) hx hb hts (fun _ h9 => List.mem_cons_of_mem _ (List.mem_append_right _ h9)) hown hK hP 0 (Nat.le_of_ble_eq_true rfl) rfl rfl 8 (by decide) (hts (.fieldLink RX12 28 "SeatsRoundModel" "isFallen" "[Z") (List.mem_of_getElem? (i := 6) rfl)) (fun _ h9 => h9) rfl dX12_write_99 ?_
      refine lv_iload hx hb dX12_write_102 (lv_at hl 5 rfl) ?_
      refine ux_zald hx hb hK hP 7 2 (Nat.le_of_ble_eq_true rfl) (cM_7 _ _ _ _) rfl h dX12_write_104 (fun v3 h => ?_)
      refine lv_if_eq (tgt := 111) hx hb dX12_write_105 (by decide) (fun hcd => ?_) (fun hcd => ?_)
      · have h := cdP hcd h
        refine lv_aload_n hx hb dX12_write_111 rfl (lv_at hl 0 rfl) ?_
        refine ux_get (D := (dC, dI)) (ci := 12) (v := .ref (ad 5)) (C := RX12) (T := TX12) (M := 59) (fs := (oM ad (σ.1 0))) hx hb hts (fun _ h9 => List.mem_cons_of_mem _ (List.mem_append_right _ h9)) hown hK hP 0 (Nat.le_of_ble_eq_true rfl) rfl rfl 6 (by decide) (hts (.fieldLink RX12 22 "SeatsRoundModel" "kind" "[I") (List.mem_of_getElem? (i := 7) rfl)) (fun _ h9 => h9) rfl dX12_write_112 ?_
        refine lv_iload hx hb dX12_write_115 (lv_at hl 5 rfl) ?_
        refine ux_iald hx hb hK hP 5 0 (Nat.le_of_ble_eq_true rfl) (cM_5 _ _ _ _) rfl h dX12_write_117 (fun v4 h => ?_)
        refine lv_iconst (v := 4) hx hb dX12_write_118 (by decide) ?_
        refine lv_icmp_ne (tgt := 144) hx hb dX12_write_119 (by decide) (fun hcd => ?_) (fun hcd => ?_)
        · have h := cdN hcd h
          refine lv_aload_n hx hb dX12_write_144 rfl (lv_at hl 0 rfl) ?_
          refine lv_iload hx hb dX12_write_145 (lv_at hl 5 rfl) ?_
          refine lv_iload_n hx hb dX12_write_147 rfl (lv_at hl 1 rfl) ?_
          obtain ⟨r5, hf6, h⟩ := biS h
          refine ux_calli (va_runV (As := [.int v2, .int x2]) (rest := []) ⟨hx, hb, hml, hown, hts⟩ (tX12_hasRoom l dC dI cy ad σ v2 x2 H.size r5 hf6) (cwV 2 hts gX12_write_X12_hasRoom rfl rfl rfl (by decide +kernel) ⟨Nat.le_of_ble_eq_true rfl, Nat.le_of_ble_eq_true rfl⟩) (wp_V hK hN hP hD (va_recv hK hP (ci := 12) (q0 := 0) rfl (wG_of (Nat.le_of_ble_eq_true rfl) rfl))) rfl rfl hl.1 rfl (lv_room (Nat.le_of_ble_eq_true rfl)) dX12_write_148 ⟨Nat.le_of_ble_eq_true rfl, Nat.le_of_ble_eq_true rfl⟩) hD hS hA (fun H locs hP hD hS => ?_)
          refine lv_if_eq (tgt := 175) hx hb dX12_write_151 (by decide) (fun hcd => ?_) (fun hcd => ?_)
          · have h := cdP hcd h
            exact w175 _ ih σ x2 x3 x4 x5 H locs ls h hP hD hS (lv_sub hl [0, 1, 2, 3, 4] rfl)
          · have h := cdN hcd h
            refine lv_aload_n hx hb dX12_write_154 rfl (lv_at hl 0 rfl) ?_
            refine ux_get (D := (dC, dI)) (ci := 12) (v := .ref (ad 20)) (C := RX12) (T := TX12) (M := 59) (fs := (oM ad (σ.1 0))) hx hb hts (fun _ h9 => List.mem_cons_of_mem _ (List.mem_append_right _ h9)) hown hK hP 0 (Nat.le_of_ble_eq_true rfl) rfl rfl 23 (by decide) (hts (.fieldLink RX12 68 "SeatsRoundModel" "version" "[I") (List.mem_of_getElem? (i := 8) rfl)) (fun _ h9 => h9) rfl dX12_write_155 ?_
            refine lv_bipush (v := 40) hx hb dX12_write_158 (by decide) ?_
            refine lv_iload hx hb dX12_write_160 (lv_at hl 5 rfl) ?_
            refine lv_imul hx hb dX12_write_162 ?_
            refine lv_iload_n hx hb dX12_write_163 rfl (lv_at hl 1 rfl) ?_
            refine lv_iadd hx hb dX12_write_164 ?_
            refine lv_aload_n hx hb dX12_write_165 rfl (lv_at hl 0 rfl) ?_
            change W _ _ _ _ _ _ _ _ _ _ _ _ _ _ _ (F0 m 166 ls [.ref (ad 0), .int ((40 * v2) + x2), .ref (ad 20)])
            refine ux_get (D := (dC, dI)) (ci := 12) (v := .ref (ad 25)) (C := RX12) (T := TX12) (M := 59) (fs := (oM ad (σ.1 0))) hx hb hts (fun _ h9 => List.mem_cons_of_mem _ (List.mem_append_right _ h9)) hown hK hP 0 (Nat.le_of_ble_eq_true rfl) rfl rfl 28 (by decide) (hts (.fieldLink RX12 83 "SeatsRoundModel" "written" "[I") (List.mem_of_getElem? (i := 2) rfl)) (fun _ h9 => h9) rfl dX12_write_166 ?_
            refine lv_iload_n hx hb dX12_write_169 rfl (lv_at hl 1 rfl) ?_
            refine ux_iald hx hb hK hP 25 0 (Nat.le_of_ble_eq_true rfl) (cM_25 _ _ _ _) rfl h dX12_write_170 (fun v7 h => ?_)
            refine ux_iast hx hb hK hP hD hS 20 0 (Nat.le_of_ble_eq_true rfl) (fun _ => (cM_20 _ _ _ _)) rfl h dX12_write_171 (fun σ8 H locs h hP hD hS => ?_)
            obtain ⟨v9, ev9⟩ : ∃ y : Int32, y = x4 + 1 := ⟨_, rfl⟩
            have h := nmS h ev9
            refine lv_iinc (v := v9) (lv' := [(4, .int v9), (0, .ref (ad 0)), (2, .int x2), (3, .int x3), (5, .int x5), (6, .int v2)]) hx hb dX12_write_172 hl (k := 3) rfl (by rw [ev9]; rfl) (by decide) rfl (fun ls hl => ?_)
            have hl := lv_sub hl [1, 2, 3, 0, 4, 5] (l' := [(0, .ref (ad 0)), (2, .int x2), (3, .int x3), (4, .int v9), (5, .int x5), (6, .int v2)]) rfl
            exact w175 _ ih σ8 x2 x3 v9 x5 H locs ls h hP hD hS (lv_sub hl [0, 1, 2, 3, 4] rfl)
        · have h := cdP hcd h
          refine lv_iload hx hb dX12_write_122 (lv_at hl 3 rfl) ?_
          refine lv_aload_n hx hb dX12_write_124 rfl (lv_at hl 0 rfl) ?_
          refine lv_iload_n hx hb dX12_write_125 rfl (lv_at hl 1 rfl) ?_
          refine lv_iload hx hb dX12_write_126 (lv_at hl 5 rfl) ?_
          refine lv_iload_n hx hb dX12_write_128 rfl (lv_at hl 2 rfl) ?_
          refine lv_aload_n hx hb dX12_write_129 rfl (lv_at hl 0 rfl) ?_
          refine ux_get (D := (dC, dI)) (ci := 12) (v := .ref (ad 25)) (C := RX12) (T := TX12) (M := 59) (fs := (oM ad (σ.1 0))) hx hb hts (fun _ h9 => List.mem_cons_of_mem _ (List.mem_append_right _ h9)) hown hK hP 0 (Nat.le_of_ble_eq_true rfl) rfl rfl 28 (by decide) (hts (.fieldLink RX12 83 "SeatsRoundModel" "written" "[I") (List.mem_of_getElem? (i := 2) rfl)) (fun _ h9 => h9) rfl dX12_write_130 ?_
          refine lv_iload_n hx hb dX12_write_133 rfl (lv_at hl 1 rfl) ?_
          change W _ _ _ _ _ _ _ _ _ _ _ _ _ _ _ (F0 m 134 ls [.int x2, .ref (ad 25), .int x3, .int v2, .int x2, .ref (ad 0), .int x4])
          refine ux_iald hx hb hK hP 25 0 (Nat.le_of_ble_eq_true rfl) (cM_25 _ _ _ _) rfl h dX12_write_134 (fun v10 h => ?_)
          obtain ⟨r11, σ12, hf13, h⟩ := bsS h
          refine ux_calli (va_runV (As := [.int x2, .int v2, .int x3, .int v10]) (rest := [.int x4]) ⟨hx, hb, hml, hown, hts⟩ (tX12_keeps l dC dI cy ad σ x2 v2 x3 v10 H.size r11 σ12 hf13) (cwV 4 hts gX12_write_X12_keeps rfl rfl rfl (by decide +kernel) ⟨Nat.le_of_ble_eq_true rfl, Nat.le_of_ble_eq_true rfl⟩) (wp_V hK hN hP hD (va_recv hK hP (ci := 12) (q0 := 0) rfl (wG_of (Nat.le_of_ble_eq_true rfl) rfl))) rfl rfl hl.1 rfl (lv_room (Nat.le_of_ble_eq_true rfl)) dX12_write_135 ⟨Nat.le_of_ble_eq_true rfl, Nat.le_of_ble_eq_true rfl⟩) hD hS hA (fun H locs hP hD hS => ?_)
          refine lv_iadd hx hb dX12_write_138 ?_
          refine lv_topi (fun v14 ev14 => ?_)
          have h := nmS h ev14
          refine lv_istore (lv' := [(4, .int v14), (0, .ref (ad 0)), (2, .int x2), (3, .int x3), (5, .int x5), (6, .int v2)]) hx hb dX12_write_139 hl (by decide) rfl (fun ls hl => ?_)
          have hl := lv_sub hl [1, 2, 3, 0, 4, 5] (l' := [(0, .ref (ad 0)), (2, .int x2), (3, .int x3), (4, .int v14), (5, .int x5), (6, .int v2)]) rfl
          refine lv_goto (tgt := 175) hx hb dX12_write_141 (by decide) ?_
          exact w175 _ ih σ12 x2 x3 v14 x5 H locs ls h hP hD hS (lv_sub hl [0, 1, 2, 3, 4] rfl)
      · have h := cdN hcd h
        refine lv_goto (tgt := 175) hx hb dX12_write_108 (by decide) ?_
        exact w175 _ ih σ x2 x3 x4 x5 H locs ls h hP hD hS (lv_sub hl [0, 1, 2, 3, 4] rfl)
  have w0 : ∀ (σ : S2) (x1 : Int32) (x2 : Int32) (H : Heap) (locs : List Loc) (ls : Array Slot), fX12_write_0 σ x1 x2 = some (r0, σ9) → va_P (dC, dI) vwCl (wG (cM cy ad) ad 40 σ) H → va_D A (wG (cM cy ad) ad 40 σ) → va_S A s.heap H locs → lv_has ls 7 [(0, .ref (ad 0)), (1, .int x1), (2, .int x2)] → W p l e (headSpec wsX12_write ({ frames := 6, cells := 0, slots := 0, locals := 144 })).room s m (#[.ref (ad 0), .int a1, .int a2]) below meth c H locs 0 0 (MQ below (va_Qi (fun (r : Int32) (_ : Unit) => r = r0) (fun (_ : Unit) t => wAt (dC, dI) A (wG (cM cy ad) ad 40 σ9) t) A) (#[.ref (ad 0), .int a1, .int a2]) s 0 0 A) (F0 m 0 ls []) := by
    intro σ x1 x2 H locs ls h hP hD hS hl
    unfold fX12_write_0 at h
    refine lv_aload_n hx hb dX12_write_0 rfl (lv_at hl 0 rfl) ?_
    refine lv_iload_n hx hb dX12_write_1 rfl (lv_at hl 1 rfl) ?_
    obtain ⟨r15, hf16, h⟩ := biS h
    refine ux_calli (va_runV (As := [.int x1]) (rest := []) ⟨hx, hb, hml, hown, hts⟩ (tX12_isKeeper l dC dI cy ad σ x1 H.size r15 hf16) (cwV 1 hts gX12_write_X12_isKeeper rfl rfl rfl (by decide +kernel) ⟨Nat.le_of_ble_eq_true rfl, Nat.le_of_ble_eq_true rfl⟩) (wp_V hK hN hP hD (va_recv hK hP (ci := 12) (q0 := 0) rfl (wG_of (Nat.le_of_ble_eq_true rfl) rfl))) rfl rfl hl.1 rfl (lv_room (Nat.le_of_ble_eq_true rfl)) dX12_write_2 ⟨Nat.le_of_ble_eq_true rfl, Nat.le_of_ble_eq_true rfl⟩) hD hS hA (fun H locs hP hD hS => ?_)
    refine lv_if_eq (tgt := 16) hx hb dX12_write_5 (by decide) (fun hcd => ?_) (fun hcd => ?_)
    · have h := cdP hcd h
      refine lv_iconst (v := (-1)) hx hb dX12_write_16 (by decide) ?_
      exact ux_iret hx hb hr h hP hD hS hlocks dX12_write_17
    · have h := cdN hcd h
      refine lv_aload_n hx hb dX12_write_8 rfl (lv_at hl 0 rfl) ?_
      refine lv_iload_n hx hb dX12_write_9 rfl (lv_at hl 2 rfl) ?_
      obtain ⟨r17, hf18, h⟩ := biS h
      refine ux_calli (va_runV (As := [.int x2]) (rest := []) ⟨hx, hb, hml, hown, hts⟩ (tX12_isName l dC dI cy ad σ x2 H.size r17 hf18) (cwV 1 hts gX12_write_X12_isName rfl rfl rfl (by decide +kernel) ⟨Nat.le_of_ble_eq_true rfl, Nat.le_of_ble_eq_true rfl⟩) (wp_V hK hN hP hD (va_recv hK hP (ci := 12) (q0 := 0) rfl (wG_of (Nat.le_of_ble_eq_true rfl) rfl))) rfl rfl hl.1 rfl (lv_room (Nat.le_of_ble_eq_true rfl)) dX12_write_10 ⟨Nat.le_of_ble_eq_true rfl, Nat.le_of_ble_eq_true rfl⟩) hD hS hA (fun H locs hP hD hS => ?_)
      refine lv_if_ne (tgt := 18) hx hb dX12_write_13 (by decide) (fun hcd => ?_) (fun hcd => ?_)
      · have h := cdN hcd h
        refine lv_aload_n hx hb dX12_write_18 rfl (lv_at hl 0 rfl) ?_
        refine ux_get (D := (dC, dI)) (ci := 12) (v := .ref (ad 6)) (C := RX12) (T := TX12) (M := 59) (fs := (oM ad (σ.1 0))) hx hb hts (fun _ h9 => List.mem_cons_of_mem _ (List.mem_append_right _ h9)) hown hK hP 0 (Nat.le_of_ble_eq_true rfl) rfl rfl 7 (by decide) (hts (.fieldLink RX12 25 "SeatsRoundModel" "known" "[I") (List.mem_of_getElem? (i := 1) rfl)) (fun _ h9 => h9) rfl dX12_write_19 ?_
        refine lv_iload_n hx hb dX12_write_22 rfl (lv_at hl 1 rfl) ?_
        refine ux_iald hx hb hK hP 6 0 (Nat.le_of_ble_eq_true rfl) (cM_6 _ _ _ _) rfl h dX12_write_23 (fun v19 h => ?_)
        refine lv_if_lt (tgt := 35) hx hb dX12_write_24 (by decide) (fun hcd => ?_) (fun hcd => ?_)
        · have h := cdP hcd h
          refine lv_bipush (v := (-5)) hx hb dX12_write_35 (by decide) ?_
          exact ux_iret hx hb hr h hP hD hS hlocks dX12_write_37
        · have h := cdN hcd h
          refine lv_aload_n hx hb dX12_write_27 rfl (lv_at hl 0 rfl) ?_
          refine lv_iload_n hx hb dX12_write_28 rfl (lv_at hl 1 rfl) ?_
          obtain ⟨r20, hf21, h⟩ := biS h
          refine ux_calli (va_runV (As := [.int x1]) (rest := []) ⟨hx, hb, hml, hown, hts⟩ (tX12_isAwake l dC dI cy ad σ x1 H.size r20 hf21) (cwV 1 hts gX12_write_X12_isAwake rfl rfl rfl (by decide +kernel) ⟨Nat.le_of_ble_eq_true rfl, Nat.le_of_ble_eq_true rfl⟩) (wp_V hK hN hP hD (va_recv hK hP (ci := 12) (q0 := 0) rfl (wG_of (Nat.le_of_ble_eq_true rfl) rfl))) rfl rfl hl.1 rfl (lv_room (Nat.le_of_ble_eq_true rfl)) dX12_write_29 ⟨Nat.le_of_ble_eq_true rfl, Nat.le_of_ble_eq_true rfl⟩) hD hS hA (fun H locs hP hD hS => ?_)
          refine lv_if_ne (tgt := 38) hx hb dX12_write_32 (by decide) (fun hcd => ?_) (fun hcd => ?_)
          · have h := cdN hcd h
            refine lv_aload_n hx hb dX12_write_38 rfl (lv_at hl 0 rfl) ?_
            refine ux_get (D := (dC, dI)) (ci := 12) (v := .ref (ad 25)) (C := RX12) (T := TX12) (M := 59) (fs := (oM ad (σ.1 0))) hx hb hts (fun _ h9 => List.mem_cons_of_mem _ (List.mem_append_right _ h9)) hown hK hP 0 (Nat.le_of_ble_eq_true rfl) rfl rfl 28 (by decide) (hts (.fieldLink RX12 83 "SeatsRoundModel" "written" "[I") (List.mem_of_getElem? (i := 2) rfl)) (fun _ h9 => h9) rfl dX12_write_39 ?_
            refine lv_iload_n hx hb dX12_write_42 rfl (lv_at hl 2 rfl) ?_
            refine lv_dup2_11 hx hb dX12_write_43 rfl rfl ?_
            refine ux_iald hx hb hK hP 25 0 (Nat.le_of_ble_eq_true rfl) (cM_25 _ _ _ _) rfl h dX12_write_44 (fun v22 h => ?_)
            refine lv_iconst (v := 1) hx hb dX12_write_45 (by decide) ?_
            refine lv_iadd hx hb dX12_write_46 ?_
            refine ux_iast hx hb hK hP hD hS 25 0 (Nat.le_of_ble_eq_true rfl) (fun _ => (cM_25 _ _ _ _)) rfl h dX12_write_47 (fun σ23 H locs h hP hD hS => ?_)
            refine lv_aload_n hx hb dX12_write_48 rfl (lv_at hl 0 rfl) ?_
            refine lv_dup hx hb dX12_write_49 rfl ?_
            refine ux_get (D := (dC, dI)) (ci := 12) (v := .int (σ23.1 0 29)) (C := RX12) (T := TX12) (M := 59) (fs := (oM ad (σ23.1 0))) hx hb hts (fun _ h9 => List.mem_cons_of_mem _ (List.mem_append_right _ h9)) hown hK hP 0 (Nat.le_of_ble_eq_true rfl) rfl rfl 29 (by decide) (hts (.fieldLink RX12 290 "SeatsRoundModel" "writings" "I") (List.mem_of_getElem? (i := 3) rfl)) (fun _ h9 => h9) rfl dX12_write_50 ?_
            refine lv_iconst (v := 1) hx hb dX12_write_53 (by decide) ?_
            refine lv_iadd hx hb dX12_write_54 ?_
            refine ux_put (D := (dC, dI)) (ci := 12) (C := RX12) (T := TX12) (M := 59) (fs := (oM ad (σ23.1 0))) hx hb hts (fun _ h9 => List.mem_cons_of_mem _ (List.mem_append_right _ h9)) tyX12 tyX12_ok nmX12 hown hK hP hD hS 0 (Nat.le_of_ble_eq_true rfl) rfl rfl 29 (by decide) (hts (.fieldLink RX12 290 "SeatsRoundModel" "writings" "I") (List.mem_of_getElem? (i := 3) rfl)) (fun _ h9 => h9) rfl (tyX12_ok 29 (by decide)) rfl rfl (Nat.le_of_ble_eq_true rfl) (oM_set_29 _ _ _ _ _) h dX12_write_55 (fun σ24 H locs h hP hD hS => ?_)
            refine lv_aload_n hx hb dX12_write_58 rfl (lv_at hl 0 rfl) ?_
            refine lv_aload_n hx hb dX12_write_59 rfl (lv_at hl 0 rfl) ?_
            refine ux_get (D := (dC, dI)) (ci := 12) (v := .ref (ad 6)) (C := RX12) (T := TX12) (M := 59) (fs := (oM ad (σ24.1 0))) hx hb hts (fun _ h9 => List.mem_cons_of_mem _ (List.mem_append_right _ h9)) hown hK hP 0 (Nat.le_of_ble_eq_true rfl) rfl rfl 7 (by decide) (hts (.fieldLink RX12 25 "SeatsRoundModel" "known" "[I") (List.mem_of_getElem? (i := 1) rfl)) (fun _ h9 => h9) rfl dX12_write_60 ?_
            refine lv_iload_n hx hb dX12_write_63 rfl (lv_at hl 1 rfl) ?_
            refine ux_iald hx hb hK hP 6 0 (Nat.le_of_ble_eq_true rfl) (cM_6 _ _ _ _) rfl h dX12_write_64 (fun v25 h => ?_)
            refine lv_iload_n hx hb dX12_write_65 rfl (lv_at hl 2 rfl) ?_
            obtain ⟨r26, σ27, hf28, h⟩ := bsS h
            refine ux_callv (va_runV (As := [.int v25, .int x2]) (rest := []) ⟨hx, hb, hml, hown, hts⟩ (tX12_chooseName l dC dI cy ad σ24 v25 x2 H.size r26 σ27 hf28) (cwV 2 hts gX12_write_X12_chooseName rfl rfl rfl (by decide +kernel) ⟨Nat.le_of_ble_eq_true rfl, Nat.le_of_ble_eq_true rfl⟩) (wp_V hK hN hP hD (va_recv hK hP (ci := 12) (q0 := 0) rfl (wG_of (Nat.le_of_ble_eq_true rfl) rfl))) rfl rfl hl.1 rfl (lv_room (Nat.le_of_ble_eq_true rfl)) dX12_write_66 ⟨Nat.le_of_ble_eq_true rfl, Nat.le_of_ble_eq_true rfl⟩) hD hS hA (fun H locs hP hD hS => ?_)
            refine lv_aload_n hx hb dX12_write_69 rfl (lv_at hl 0 rfl) ?_
            obtain ⟨r29, hf30, h⟩ := biS h
            refine ux_calli (va_runV (As := []) (rest := []) ⟨hx, hb, hml, hown, hts⟩ (tX12_bits l dC dI cy ad σ27 H.size r29 hf30) (cwV 0 hts gX12_write_X12_bits rfl rfl rfl (by decide +kernel) ⟨Nat.le_of_ble_eq_true rfl, Nat.le_of_ble_eq_true rfl⟩) (wp_V hK hN hP hD (va_recv hK hP (ci := 12) (q0 := 0) rfl (wG_of (Nat.le_of_ble_eq_true rfl) rfl))) rfl rfl hl.1 rfl (lv_room (Nat.le_of_ble_eq_true rfl)) dX12_write_70 ⟨Nat.le_of_ble_eq_true rfl, Nat.le_of_ble_eq_true rfl⟩) hD hS hA (fun H locs hP hD hS => ?_)
            refine lv_istore_n (lv' := [(3, .int r29), (0, .ref (ad 0)), (1, .int x1), (2, .int x2)]) hx hb dX12_write_73 rfl hl (by decide) rfl (fun ls hl => ?_)
            have hl := lv_sub hl [1, 2, 3, 0] (l' := [(0, .ref (ad 0)), (1, .int x1), (2, .int x2), (3, .int r29)]) rfl
            refine lv_iconst (v := 0) hx hb dX12_write_74 (by decide) ?_
            refine lv_istore (lv' := [(4, .int 0), (0, .ref (ad 0)), (1, .int x1), (2, .int x2), (3, .int r29)]) hx hb dX12_write_75 hl (by decide) rfl (fun ls hl => ?_)
            have hl := lv_sub hl [1, 2, 3, 4, 0] (l' := [(0, .ref (ad 0)), (1, .int x1), (2, .int x2), (3, .int r29), (4, .int 0)]) rfl
            refine lv_iconst (v := 0) hx hb dX12_write_77 (by decide) ?_
            refine lv_istore (lv' := [(5, .int 0), (0, .ref (ad 0)), (1, .int x1), (2, .int x2), (3, .int r29), (4, .int 0)]) hx hb dX12_write_78 hl (by decide) rfl (fun ls hl => ?_)
            have hl := lv_sub hl [1, 2, 3, 4, 5, 0] (l' := [(0, .ref (ad 0)), (1, .int x1), (2, .int x2), (3, .int r29), (4, .int 0), (5, .int 0)]) rfl
            exact w80 FU σ27 x2 r29 0 0 H locs ls h hP hD hS (lv_sub hl [0, 2, 3, 4, 5] rfl)
          · have h := cdP hcd h
            refine lv_bipush (v := (-5)) hx hb dX12_write_35 (by decide) ?_
            exact ux_iret hx hb hr h hP hD hS hlocks dX12_write_37
      · have h := cdP hcd h
        refine lv_iconst (v := (-1)) hx hb dX12_write_16 (by decide) ?_
        exact ux_iret hx hb hr h hP hD hS hlocks dX12_write_17
  intro H locs ls h hP hD hS hl
  exact w0 σ a1 a2 H locs ls h hP hD hS (lv_sub hl [0, 1, 2] rfl)

set_option maxHeartbeats 4000000 in
set_option maxRecDepth 100000 in
theorem tX12_read (l : Launch) (dC : Nat → ClassId) (dI : Nat → Nat → Nat) (cy : Nat → ClassId) (ad : Nat → Nat) (σ : S2) (a1 : Int32) (a2 : Int32) (sz : Nat) (r0 : Int32) (σ9 : S2) (h : fX12_read σ a1 a2 = some (r0, σ9)) : Met l yX12_read wsX12_read ({ frames := 6, cells := 0, slots := 0, locals := 144 }) (va_Pc [.ref (ad 0), .int a1, .int a2] (wPre (dC, dI) cy (wG (cM cy ad) ad 40 σ) sz)) (va_Qi (fun (r : Int32) (_ : Unit) => r = r0) (fun (_ : Unit) t => wAt (dC, dI) (va_A (wG (cM cy ad) ad 40 σ) sz) (wG (cM cy ad) ad 40 σ9) t) (va_A (wG (cM cy ad) ad 40 σ) sz)) 0 0 (va_A (wG (cM cy ad) ad 40 σ) sz) := by
  refine Met.ofW (cc := cX12_read) (maxL := 6) (ret := (some .int)) (by decide) rfl ?_
  intro p e s m args below meth c s₁ B hml hv
  obtain ⟨rfl, hsz, hP, hK, hD0, hN⟩ := hv
  have hx := B.exec
  have hb := B.bytes
  have hr := B.returns
  have hts := atoms_spec (ws := wsX12_read) B.pre
  have hown : s.vm.findClass RX12 = some m.cls := findClass_of_methodNamed B.named
  have hlocks := B.notSynchronized
  subst hsz
  have hD := hD0.self (sz := s.heap.size)
  generalize hAe : va_A (wG (cM cy ad) ad 40 σ) s.heap.size = A at hD ⊢
  have hA : ∀ q : Nat, s.heap.size ≤ q → A q := fun q h => by rw [← hAe]; exact Or.inr h
  have hS : va_S A s.heap s.heap [] := va_S.rf
  have hl := lv_entry ([.ref (ad 0), .int a1, .int a2]) (n := 6) (Nat.le_of_ble_eq_true rfl)
  rw [lg_entry_eq]
  generalize (lg_sl ([.ref (ad 0), .int a1, .int a2]) ++ List.replicate (6 - (lg_sl ([.ref (ad 0), .int a1, .int a2])).length) Slot.unset).toArray = ls at hl ⊢
  have hl : lv_has ls 6 [(0, .ref (ad 0)), (1, .int a1), (2, .int a2)] := hl
  unfold fX12_read at h
  clear hAe hD0
  suffices HH : ∀ (H : Heap) (locs : List Loc) (ls : Array Slot), fX12_read_0 σ a1 a2 = some (r0, σ9) → va_P (dC, dI) vwCl (wG (cM cy ad) ad 40 σ) H → va_D A (wG (cM cy ad) ad 40 σ) → va_S A s.heap H locs → lv_has ls 6 [(0, .ref (ad 0)), (1, .int a1), (2, .int a2)] → W p l e (headSpec wsX12_read ({ frames := 6, cells := 0, slots := 0, locals := 144 })).room s m (#[.ref (ad 0), .int a1, .int a2]) below meth c H locs 0 0 (MQ below (va_Qi (fun (r : Int32) (_ : Unit) => r = r0) (fun (_ : Unit) t => wAt (dC, dI) A (wG (cM cy ad) ad 40 σ9) t) A) (#[.ref (ad 0), .int a1, .int a2]) s 0 0 A) (F0 m 0 ls []) from HH s.heap [] ls h hP hD hS hl
  have w112 : ∀ (k54 : S2 → Int32 → Int32 → Int32 → Option (Int32 × S2)) (hk54 : ∀ (σ : S2) (x2 : Int32) (x3 : Int32) (x4 : Int32) (H : Heap) (locs : List Loc) (ls : Array Slot), k54 σ x2 x3 x4 = some (r0, σ9) → va_P (dC, dI) vwCl (wG (cM cy ad) ad 40 σ) H → va_D A (wG (cM cy ad) ad 40 σ) → va_S A s.heap H locs → lv_has ls 6 [(0, .ref (ad 0)), (2, .int x2), (3, .int x3), (4, .int x4)] → W p l e (headSpec wsX12_read ({ frames := 6, cells := 0, slots := 0, locals := 144 })).room s m (#[.ref (ad 0), .int a1, .int a2]) below meth c H locs 0 0 (MQ below (va_Qi (fun (r : Int32) (_ : Unit) => r = r0) (fun (_ : Unit) t => wAt (dC, dI) A (wG (cM cy ad) ad 40 σ9) t) A) (#[.ref (ad 0), .int a1, .int a2]) s 0 0 A) (F0 m 54 ls [])) , ∀ (σ : S2) (x2 : Int32) (x4 : Int32) (s0 : Int32) (H : Heap) (locs : List Loc) (ls : Array Slot), fX12_read_112 k54 σ x2 x4 s0 = some (r0, σ9) → va_P (dC, dI) vwCl (wG (cM cy ad) ad 40 σ) H → va_D A (wG (cM cy ad) ad 40 σ) → va_S A s.heap H locs → lv_has ls 6 [(0, .ref (ad 0)), (2, .int x2), (4, .int x4)] → W p l e (headSpec wsX12_read ({ frames := 6, cells := 0, slots := 0, locals := 144 })).room s m (#[.ref (ad 0), .int a1, .int a2]) below meth c H locs 0 0 (MQ below (va_Qi (fun (r : Int32) (_ : Unit) => r = r0) (fun (_ : Unit) t => wAt (dC, dI) A (wG (cM cy ad) ad 40 σ9) t) A) (#[.ref (ad 0), .int a1, .int a2]) s 0 0 A) (F0 m 112 ls [.int s0]) := by
    intro k54 hk54 σ x2 x4 s0 H locs ls h hP hD hS hl
    unfold fX12_read_112 at h
    refine lv_istore_n (lv' := [(3, .int s0), (0, .ref (ad 0)), (2, .int x2), (4, .int x4)]) hx hb dX12_read_112 rfl hl (by decide) rfl (fun ls hl => ?_)
    have hl := lv_sub hl [1, 2, 0, 3] (l' := [(0, .ref (ad 0)), (2, .int x2), (3, .int s0), (4, .int x4)]) rfl
    obtain ⟨v1, ev1⟩ : ∃ y : Int32, y = x4 + 1 := ⟨_, rfl⟩
    have h := nmS h ev1
    refine lv_iinc (v := v1) (lv' := [(4, .int v1), (0, .ref (ad 0)), (2, .int x2), (3, .int s0)]) hx hb dX12_read_113 hl (k := 3) rfl (by rw [ev1]; rfl) (by decide) rfl (fun ls hl => ?_)
    have hl := lv_sub hl [1, 2, 3, 0] (l' := [(0, .ref (ad 0)), (2, .int x2), (3, .int s0), (4, .int v1)]) rfl
    refine lv_goto (tgt := 54) hx hb dX12_read_116 (by decide) ?_
    exact hk54 σ x2 s0 v1 H locs ls h hP hD hS hl
  have w98 : ∀ (k54 : S2 → Int32 → Int32 → Int32 → Option (Int32 × S2)) (hk54 : ∀ (σ : S2) (x2 : Int32) (x3 : Int32) (x4 : Int32) (H : Heap) (locs : List Loc) (ls : Array Slot), k54 σ x2 x3 x4 = some (r0, σ9) → va_P (dC, dI) vwCl (wG (cM cy ad) ad 40 σ) H → va_D A (wG (cM cy ad) ad 40 σ) → va_S A s.heap H locs → lv_has ls 6 [(0, .ref (ad 0)), (2, .int x2), (3, .int x3), (4, .int x4)] → W p l e (headSpec wsX12_read ({ frames := 6, cells := 0, slots := 0, locals := 144 })).room s m (#[.ref (ad 0), .int a1, .int a2]) below meth c H locs 0 0 (MQ below (va_Qi (fun (r : Int32) (_ : Unit) => r = r0) (fun (_ : Unit) t => wAt (dC, dI) A (wG (cM cy ad) ad 40 σ9) t) A) (#[.ref (ad 0), .int a1, .int a2]) s 0 0 A) (F0 m 54 ls [])) , ∀ (σ : S2) (x2 : Int32) (x3 : Int32) (x4 : Int32) (s0 : Int32) (H : Heap) (locs : List Loc) (ls : Array Slot), fX12_read_98 k54 σ x2 x3 x4 s0 = some (r0, σ9) → va_P (dC, dI) vwCl (wG (cM cy ad) ad 40 σ) H → va_D A (wG (cM cy ad) ad 40 σ) → va_S A s.heap H locs → lv_has ls 6 [(0, .ref (ad 0)), (2, .int x2), (3, .int x3), (4, .int x4)] → W p l e (headSpec wsX12_read ({ frames := 6, cells := 0, slots := 0, locals := 144 })).room s m (#[.ref (ad 0), .int a1, .int a2]) below meth c H locs 0 0 (MQ below (va_Qi (fun (r : Int32) (_ : Unit) => r = r0) (fun (_ : Unit) t => wAt (dC, dI) A (wG (cM cy ad) ad 40 σ9) t) A) (#[.ref (ad 0), .int a1, .int a2]) s 0 0 A) (F0 m 98 ls [.int s0]) := by
    intro k54 hk54 σ x2 x3 x4 s0 H locs ls h hP hD hS hl
    unfold fX12_read_98 at h
    refine lv_istore (lv' := [(5, .int s0), (0, .ref (ad 0)), (2, .int x2), (3, .int x3), (4, .int x4)]) hx hb dX12_read_98 hl (by decide) rfl (fun ls hl => ?_)
    have hl := lv_sub hl [1, 2, 3, 4, 0] (l' := [(0, .ref (ad 0)), (2, .int x2), (3, .int x3), (4, .int x4), (5, .int s0)]) rfl
    refine lv_iload hx hb dX12_read_100 (lv_at hl 4 rfl) ?_
    refine lv_iload_n hx hb dX12_read_102 rfl (lv_at hl 2 rfl) ?_
    refine lv_icmp_le (tgt := 111) hx hb dX12_read_103 (by decide) (fun hcd => ?_) (fun hcd => ?_)
    · have h := cdP hcd h
      refine lv_iload_n hx hb dX12_read_111 rfl (lv_at hl 2 rfl) ?_
      exact w112 _ hk54 σ x2 x4 x3 H locs ls h hP hD hS (lv_sub hl [0, 1, 3] rfl)
    · have h := cdN hcd h
      refine lv_iload hx hb dX12_read_106 (lv_at hl 4 rfl) ?_
      refine lv_goto (tgt := 112) hx hb dX12_read_108 (by decide) ?_
      exact w112 _ hk54 σ x2 x4 s0 H locs ls h hP hD hS (lv_sub hl [0, 1, 3] rfl)
  have w54 : ∀ (n : Nat), ∀ (σ : S2) (x2 : Int32) (x3 : Int32) (x4 : Int32) (H : Heap) (locs : List Loc) (ls : Array Slot), fX12_read_54 n σ x2 x3 x4 = some (r0, σ9) → va_P (dC, dI) vwCl (wG (cM cy ad) ad 40 σ) H → va_D A (wG (cM cy ad) ad 40 σ) → va_S A s.heap H locs → lv_has ls 6 [(0, .ref (ad 0)), (2, .int x2), (3, .int x3), (4, .int x4)] → W p l e (headSpec wsX12_read ({ frames := 6, cells := 0, slots := 0, locals := 144 })).room s m (#[.ref (ad 0), .int a1, .int a2]) below meth c H locs 0 0 (MQ below (va_Qi (fun (r : Int32) (_ : Unit) => r = r0) (fun (_ : Unit) t => wAt (dC, dI) A (wG (cM cy ad) ad 40 σ9) t) A) (#[.ref (ad 0), .int a1, .int a2]) s 0 0 A) (F0 m 54 ls []) := by
    intro n
    induction n with
    | zero => intro σ x2 x3 x4 H locs ls h; cases h
    | succ n ih =>
    intro σ x2 x3 x4 H locs ls h hP hD hS hl
    unfold fX12_read_54 at h
    refine lv_iload hx hb dX12_read_54 (lv_at hl 3 rfl) ?_
    refine lv_aload_n hx hb dX12_read_56 rfl (lv_at hl 0 rfl) ?_
    refine ux_get (D := (dC, dI)) (ci := 12) (v := .int (σ.1 0 55)) (C := RX12) (T := TX12) (M := 59) (fs := (oM ad (σ.1 0))) hx hb hts (fun _ h9 => List.mem_cons_of_mem _ (List.mem_append_right _ h9)) hown hK hP 0 (Nat.le_of_ble_eq_true rfl) rfl rfl 55 (by decide) (hts (.fieldLink RX12 250 "SeatsRoundModel" "chosenMany" "I") (List.mem_of_getElem? (i := 2) rfl)) (fun _ h9 => h9) rfl dX12_read_57 ?_
    refine lv_icmp_ge (tgt := 119) hx hb dX12_read_60 (by decide) (fun hcd => ?_) (fun hcd => ?_)
    · have h := cdP hcd h
      refine lv_iload_n hx hb dX12_read_119 rfl (lv_at hl 2 rfl) ?_
      exact ux_iret hx hb hr h hP hD hS hlocks dX12_read_120
    · have h := cdN hcd h
      refine lv_aload_n hx hb dX12_read_63 rfl (lv_at hl 0 rfl) ?_
      refine lv_aload_n hx hb dX12_read_64 rfl (lv_at hl 0 rfl) ?_
      refine ux_get (D := (dC, dI)) (ci := 12) (v := .ref (ad 36)) (C := RX12) (T := TX12) (M := 59) (fs := (oM ad (σ.1 0))) hx hb hts (fun _ h9 => List.mem_cons_of_mem _ (List.mem_append_right _ h9)) hown hK hP 0 (Nat.le_of_ble_eq_true rfl) rfl rfl 54 (by decide) (hts (.fieldLink RX12 121 "SeatsRoundModel" "chosen" "[I") (List.mem_of_getElem? (i := 3) rfl)) (fun _ h9 => h9) rfl dX12_read_65 ?_
      refine lv_iload hx hb dX12_read_68 (lv_at hl 3 rfl) ?_
      refine ux_iald hx hb hK hP 36 0 (Nat.le_of_ble_eq_true rfl) (cM_36 _ _ _ _) rfl h dX12_read_70 (fun v2 h => ?_)
      obtain ⟨r3, hf4, h⟩ := biS h
      refine ux_calli (va_runV (As := [.int v2]) (rest := []) ⟨hx, hb, hml, hown, hts⟩ (tX12_isAwake l dC dI cy ad σ v2 H.size r3 hf4) (cwV 1 hts gX12_read_X12_isAwake rfl rfl rfl (by decide +kernel) ⟨Nat.le_of_ble_eq_true rfl, Nat.le_of_ble_eq_true rfl⟩) (wp_V hK hN hP hD (va_recv hK hP (ci := 12) (q0 := 0) rfl (wG_of (Nat.le_of_ble_eq_true rfl) rfl))) rfl rfl hl.1 rfl (lv_room (Nat.le_of_ble_eq_true rfl)) dX12_read_71 ⟨Nat.le_of_ble_eq_true rfl, Nat.le_of_ble_eq_true rfl⟩) hD hS hA (fun H locs hP hD hS => ?_)
      refine lv_if_eq (tgt := 97) hx hb dX12_read_74 (by decide) (fun hcd => ?_) (fun hcd => ?_)
      · have h := cdP hcd h
        refine lv_iconst (v := 0) hx hb dX12_read_97 (by decide) ?_
        exact w98 _ ih σ x2 x3 x4 0 H locs ls h hP hD hS hl
      · have h := cdN hcd h
        refine lv_aload_n hx hb dX12_read_77 rfl (lv_at hl 0 rfl) ?_
        refine ux_get (D := (dC, dI)) (ci := 12) (v := .ref (ad 20)) (C := RX12) (T := TX12) (M := 59) (fs := (oM ad (σ.1 0))) hx hb hts (fun _ h9 => List.mem_cons_of_mem _ (List.mem_append_right _ h9)) hown hK hP 0 (Nat.le_of_ble_eq_true rfl) rfl rfl 23 (by decide) (hts (.fieldLink RX12 68 "SeatsRoundModel" "version" "[I") (List.mem_of_getElem? (i := 4) rfl)) (fun _ h9 => h9) rfl dX12_read_78 ?_
        refine lv_bipush (v := 40) hx hb dX12_read_81 (by decide) ?_
        refine lv_aload_n hx hb dX12_read_83 rfl (lv_at hl 0 rfl) ?_
        refine ux_get (D := (dC, dI)) (ci := 12) (v := .ref (ad 36)) (C := RX12) (T := TX12) (M := 59) (fs := (oM ad (σ.1 0))) hx hb hts (fun _ h9 => List.mem_cons_of_mem _ (List.mem_append_right _ h9)) hown hK hP 0 (Nat.le_of_ble_eq_true rfl) rfl rfl 54 (by decide) (hts (.fieldLink RX12 121 "SeatsRoundModel" "chosen" "[I") (List.mem_of_getElem? (i := 3) rfl)) (fun _ h9 => h9) rfl dX12_read_84 ?_
        refine lv_iload hx hb dX12_read_87 (lv_at hl 3 rfl) ?_
        refine ux_iald hx hb hK hP 36 0 (Nat.le_of_ble_eq_true rfl) (cM_36 _ _ _ _) rfl h dX12_read_89 (fun v5 h => ?_)
        refine lv_imul hx hb dX12_read_90 ?_
        refine lv_iload_n hx hb dX12_read_91 rfl (lv_at hl 1 rfl) ?_
        refine lv_iadd hx hb dX12_read_92 ?_
        refine ux_iald hx hb hK hP 20 0 (Nat.le_of_ble_eq_true rfl) (cM_20 _ _ _ _) rfl h dX12_read_93 (fun v6 h => ?_)
        refine lv_goto (tgt := 98) hx hb dX12_read_94 (by decide) ?_
        exact w98 _ ih σ x2 x3 x4 v6 H locs ls h hP hD hS hl
  have w0 : ∀ (σ : S2) (x1 : Int32) (x2 : Int32) (H : Heap) (locs : List Loc) (ls : Array Slot), fX12_read_0 σ x1 x2 = some (r0, σ9) → va_P (dC, dI) vwCl (wG (cM cy ad) ad 40 σ) H → va_D A (wG (cM cy ad) ad 40 σ) → va_S A s.heap H locs → lv_has ls 6 [(0, .ref (ad 0)), (1, .int x1), (2, .int x2)] → W p l e (headSpec wsX12_read ({ frames := 6, cells := 0, slots := 0, locals := 144 })).room s m (#[.ref (ad 0), .int a1, .int a2]) below meth c H locs 0 0 (MQ below (va_Qi (fun (r : Int32) (_ : Unit) => r = r0) (fun (_ : Unit) t => wAt (dC, dI) A (wG (cM cy ad) ad 40 σ9) t) A) (#[.ref (ad 0), .int a1, .int a2]) s 0 0 A) (F0 m 0 ls []) := by
    intro σ x1 x2 H locs ls h hP hD hS hl
    unfold fX12_read_0 at h
    refine lv_aload_n hx hb dX12_read_0 rfl (lv_at hl 0 rfl) ?_
    refine lv_iload_n hx hb dX12_read_1 rfl (lv_at hl 1 rfl) ?_
    obtain ⟨r7, hf8, h⟩ := biS h
    refine ux_calli (va_runV (As := [.int x1]) (rest := []) ⟨hx, hb, hml, hown, hts⟩ (tX12_isKeeper l dC dI cy ad σ x1 H.size r7 hf8) (cwV 1 hts gX12_read_X12_isKeeper rfl rfl rfl (by decide +kernel) ⟨Nat.le_of_ble_eq_true rfl, Nat.le_of_ble_eq_true rfl⟩) (wp_V hK hN hP hD (va_recv hK hP (ci := 12) (q0 := 0) rfl (wG_of (Nat.le_of_ble_eq_true rfl) rfl))) rfl rfl hl.1 rfl (lv_room (Nat.le_of_ble_eq_true rfl)) dX12_read_2 ⟨Nat.le_of_ble_eq_true rfl, Nat.le_of_ble_eq_true rfl⟩) hD hS hA (fun H locs hP hD hS => ?_)
    refine lv_if_eq (tgt := 16) hx hb dX12_read_5 (by decide) (fun hcd => ?_) (fun hcd => ?_)
    · have h := cdP hcd h
      refine lv_iconst (v := (-1)) hx hb dX12_read_16 (by decide) ?_
      exact ux_iret hx hb hr h hP hD hS hlocks dX12_read_17
    · have h := cdN hcd h
      refine lv_aload_n hx hb dX12_read_8 rfl (lv_at hl 0 rfl) ?_
      refine lv_iload_n hx hb dX12_read_9 rfl (lv_at hl 2 rfl) ?_
      obtain ⟨r9, hf10, h⟩ := biS h
      refine ux_calli (va_runV (As := [.int x2]) (rest := []) ⟨hx, hb, hml, hown, hts⟩ (tX12_isName l dC dI cy ad σ x2 H.size r9 hf10) (cwV 1 hts gX12_read_X12_isName rfl rfl rfl (by decide +kernel) ⟨Nat.le_of_ble_eq_true rfl, Nat.le_of_ble_eq_true rfl⟩) (wp_V hK hN hP hD (va_recv hK hP (ci := 12) (q0 := 0) rfl (wG_of (Nat.le_of_ble_eq_true rfl) rfl))) rfl rfl hl.1 rfl (lv_room (Nat.le_of_ble_eq_true rfl)) dX12_read_10 ⟨Nat.le_of_ble_eq_true rfl, Nat.le_of_ble_eq_true rfl⟩) hD hS hA (fun H locs hP hD hS => ?_)
      refine lv_if_ne (tgt := 18) hx hb dX12_read_13 (by decide) (fun hcd => ?_) (fun hcd => ?_)
      · have h := cdN hcd h
        refine lv_aload_n hx hb dX12_read_18 rfl (lv_at hl 0 rfl) ?_
        refine ux_get (D := (dC, dI)) (ci := 12) (v := .ref (ad 6)) (C := RX12) (T := TX12) (M := 59) (fs := (oM ad (σ.1 0))) hx hb hts (fun _ h9 => List.mem_cons_of_mem _ (List.mem_append_right _ h9)) hown hK hP 0 (Nat.le_of_ble_eq_true rfl) rfl rfl 7 (by decide) (hts (.fieldLink RX12 25 "SeatsRoundModel" "known" "[I") (List.mem_of_getElem? (i := 1) rfl)) (fun _ h9 => h9) rfl dX12_read_19 ?_
        refine lv_iload_n hx hb dX12_read_22 rfl (lv_at hl 1 rfl) ?_
        refine ux_iald hx hb hK hP 6 0 (Nat.le_of_ble_eq_true rfl) (cM_6 _ _ _ _) rfl h dX12_read_23 (fun v11 h => ?_)
        refine lv_if_lt (tgt := 35) hx hb dX12_read_24 (by decide) (fun hcd => ?_) (fun hcd => ?_)
        · have h := cdP hcd h
          refine lv_bipush (v := (-5)) hx hb dX12_read_35 (by decide) ?_
          exact ux_iret hx hb hr h hP hD hS hlocks dX12_read_37
        · have h := cdN hcd h
          refine lv_aload_n hx hb dX12_read_27 rfl (lv_at hl 0 rfl) ?_
          refine lv_iload_n hx hb dX12_read_28 rfl (lv_at hl 1 rfl) ?_
          obtain ⟨r12, hf13, h⟩ := biS h
          refine ux_calli (va_runV (As := [.int x1]) (rest := []) ⟨hx, hb, hml, hown, hts⟩ (tX12_isAwake l dC dI cy ad σ x1 H.size r12 hf13) (cwV 1 hts gX12_read_X12_isAwake rfl rfl rfl (by decide +kernel) ⟨Nat.le_of_ble_eq_true rfl, Nat.le_of_ble_eq_true rfl⟩) (wp_V hK hN hP hD (va_recv hK hP (ci := 12) (q0 := 0) rfl (wG_of (Nat.le_of_ble_eq_true rfl) rfl))) rfl rfl hl.1 rfl (lv_room (Nat.le_of_ble_eq_true rfl)) dX12_read_29 ⟨Nat.le_of_ble_eq_true rfl, Nat.le_of_ble_eq_true rfl⟩) hD hS hA (fun H locs hP hD hS => ?_)
          refine lv_if_ne (tgt := 38) hx hb dX12_read_32 (by decide) (fun hcd => ?_) (fun hcd => ?_)
          · have h := cdN hcd h
            refine lv_aload_n hx hb dX12_read_38 rfl (lv_at hl 0 rfl) ?_
            refine lv_aload_n hx hb dX12_read_39 rfl (lv_at hl 0 rfl) ?_
            refine ux_get (D := (dC, dI)) (ci := 12) (v := .ref (ad 6)) (C := RX12) (T := TX12) (M := 59) (fs := (oM ad (σ.1 0))) hx hb hts (fun _ h9 => List.mem_cons_of_mem _ (List.mem_append_right _ h9)) hown hK hP 0 (Nat.le_of_ble_eq_true rfl) rfl rfl 7 (by decide) (hts (.fieldLink RX12 25 "SeatsRoundModel" "known" "[I") (List.mem_of_getElem? (i := 1) rfl)) (fun _ h9 => h9) rfl dX12_read_40 ?_
            refine lv_iload_n hx hb dX12_read_43 rfl (lv_at hl 1 rfl) ?_
            refine ux_iald hx hb hK hP 6 0 (Nat.le_of_ble_eq_true rfl) (cM_6 _ _ _ _) rfl h dX12_read_44 (fun v14 h => ?_)
            refine lv_iload_n hx hb dX12_read_45 rfl (lv_at hl 2 rfl) ?_
            obtain ⟨r15, σ16, hf17, h⟩ := bsS h
            refine ux_callv (va_runV (As := [.int v14, .int x2]) (rest := []) ⟨hx, hb, hml, hown, hts⟩ (tX12_chooseName l dC dI cy ad σ v14 x2 H.size r15 σ16 hf17) (cwV 2 hts gX12_read_X12_chooseName rfl rfl rfl (by decide +kernel) ⟨Nat.le_of_ble_eq_true rfl, Nat.le_of_ble_eq_true rfl⟩) (wp_V hK hN hP hD (va_recv hK hP (ci := 12) (q0 := 0) rfl (wG_of (Nat.le_of_ble_eq_true rfl) rfl))) rfl rfl hl.1 rfl (lv_room (Nat.le_of_ble_eq_true rfl)) dX12_read_46 ⟨Nat.le_of_ble_eq_true rfl, Nat.le_of_ble_eq_true rfl⟩) hD hS hA (fun H locs hP hD hS => ?_)
            refine lv_iconst (v := 0) hx hb dX12_read_49 (by decide) ?_
            refine lv_istore_n (lv' := [(3, .int 0), (0, .ref (ad 0)), (1, .int x1), (2, .int x2)]) hx hb dX12_read_50 rfl hl (by decide) rfl (fun ls hl => ?_)
            have hl := lv_sub hl [1, 2, 3, 0] (l' := [(0, .ref (ad 0)), (1, .int x1), (2, .int x2), (3, .int 0)]) rfl
            refine lv_iconst (v := 0) hx hb dX12_read_51 (by decide) ?_
            refine lv_istore (lv' := [(4, .int 0), (0, .ref (ad 0)), (1, .int x1), (2, .int x2), (3, .int 0)]) hx hb dX12_read_52 hl (by decide) rfl (fun ls hl => ?_)
            have hl := lv_sub hl [1, 2, 3, 4, 0] (l' := [(0, .ref (ad 0)), (1, .int x1), (2, .int x2), (3, .int 0), (4, .int 0)]) rfl
            exact w54 FU σ16 x2 0 0 H locs ls h hP hD hS (lv_sub hl [0, 2, 3, 4] rfl)
          · have h := cdP hcd h
            refine lv_bipush (v := (-5)) hx hb dX12_read_35 (by decide) ?_
            exact ux_iret hx hb hr h hP hD hS hlocks dX12_read_37
      · have h := cdP hcd h
        refine lv_iconst (v := (-1)) hx hb dX12_read_16 (by decide) ?_
        exact ux_iret hx hb hr h hP hD hS hlocks dX12_read_17
  intro H locs ls h hP hD hS hl
  exact w0 σ a1 a2 H locs ls h hP hD hS (lv_sub hl [0, 1, 2] rfl)

set_option maxHeartbeats 4000000 in
set_option maxRecDepth 100000 in
theorem tX12_onShelf (l : Launch) (dC : Nat → ClassId) (dI : Nat → Nat → Nat) (cy : Nat → ClassId) (ad : Nat → Nat) (σ : S2) (a1 : Int32) (a2 : Int32) (a3 : Int32) (sz : Nat) (r0 : Int32) (h : fX12_onShelf σ a1 a2 a3 = some r0) : Met l yX12_onShelf wsX12_onShelf ({ frames := 3, cells := 0, slots := 0, locals := 66 }) (va_Pc [.ref (ad 0), .int a1, .int a2, .int a3] (wPre (dC, dI) cy (wG (cM cy ad) ad 40 σ) sz)) (va_Qi (fun (r : Int32) (_ : Unit) => r = r0) (fun (_ : Unit) t => wAt (dC, dI) (va_A (wG (cM cy ad) ad 40 σ) sz) (wG (cM cy ad) ad 40 σ) t) (va_A (wG (cM cy ad) ad 40 σ) sz)) 0 0 (va_A (wG (cM cy ad) ad 40 σ) sz) := by
  refine Met.ofW (cc := cX12_onShelf) (maxL := 5) (ret := (some .int)) (by decide) rfl ?_
  intro p e s m args below meth c s₁ B hml hv
  obtain ⟨rfl, hsz, hP, hK, hD0, hN⟩ := hv
  have hx := B.exec
  have hb := B.bytes
  have hr := B.returns
  have hts := atoms_spec (ws := wsX12_onShelf) B.pre
  have hown : s.vm.findClass RX12 = some m.cls := findClass_of_methodNamed B.named
  have hlocks := B.notSynchronized
  subst hsz
  have hD := hD0.self (sz := s.heap.size)
  generalize hAe : va_A (wG (cM cy ad) ad 40 σ) s.heap.size = A at hD ⊢
  have hA : ∀ q : Nat, s.heap.size ≤ q → A q := fun q h => by rw [← hAe]; exact Or.inr h
  have hS : va_S A s.heap s.heap [] := va_S.rf
  have hl := lv_entry ([.ref (ad 0), .int a1, .int a2, .int a3]) (n := 5) (Nat.le_of_ble_eq_true rfl)
  rw [lg_entry_eq]
  generalize (lg_sl ([.ref (ad 0), .int a1, .int a2, .int a3]) ++ List.replicate (5 - (lg_sl ([.ref (ad 0), .int a1, .int a2, .int a3])).length) Slot.unset).toArray = ls at hl ⊢
  have hl : lv_has ls 5 [(0, .ref (ad 0)), (1, .int a1), (2, .int a2), (3, .int a3)] := hl
  unfold fX12_onShelf at h
  clear hAe hD0
  suffices HH : ∀ (H : Heap) (locs : List Loc) (ls : Array Slot), fX12_onShelf_0 σ a1 a2 a3 = some r0 → va_P (dC, dI) vwCl (wG (cM cy ad) ad 40 σ) H → va_D A (wG (cM cy ad) ad 40 σ) → va_S A s.heap H locs → lv_has ls 5 [(0, .ref (ad 0)), (1, .int a1), (2, .int a2), (3, .int a3)] → W p l e (headSpec wsX12_onShelf ({ frames := 3, cells := 0, slots := 0, locals := 66 })).room s m (#[.ref (ad 0), .int a1, .int a2, .int a3]) below meth c H locs 0 0 (MQ below (va_Qi (fun (r : Int32) (_ : Unit) => r = r0) (fun (_ : Unit) t => wAt (dC, dI) A (wG (cM cy ad) ad 40 σ) t) A) (#[.ref (ad 0), .int a1, .int a2, .int a3]) s 0 0 A) (F0 m 0 ls []) from HH s.heap [] ls h hP hD hS hl
  have w0 : ∀ (σ : S2) (x1 : Int32) (x2 : Int32) (x3 : Int32) (H : Heap) (locs : List Loc) (ls : Array Slot), fX12_onShelf_0 σ x1 x2 x3 = some r0 → va_P (dC, dI) vwCl (wG (cM cy ad) ad 40 σ) H → va_D A (wG (cM cy ad) ad 40 σ) → va_S A s.heap H locs → lv_has ls 5 [(0, .ref (ad 0)), (1, .int x1), (2, .int x2), (3, .int x3)] → W p l e (headSpec wsX12_onShelf ({ frames := 3, cells := 0, slots := 0, locals := 66 })).room s m (#[.ref (ad 0), .int a1, .int a2, .int a3]) below meth c H locs 0 0 (MQ below (va_Qi (fun (r : Int32) (_ : Unit) => r = r0) (fun (_ : Unit) t => wAt (dC, dI) A (wG (cM cy ad) ad 40 σ) t) A) (#[.ref (ad 0), .int a1, .int a2, .int a3]) s 0 0 A) (F0 m 0 ls []) := by
    intro σ x1 x2 x3 H locs ls h hP hD hS hl
    unfold fX12_onShelf_0 at h
    refine lv_aload_n hx hb dX12_onShelf_0 rfl (lv_at hl 0 rfl) ?_
    refine lv_iload_n hx hb dX12_onShelf_1 rfl (lv_at hl 1 rfl) ?_
    obtain ⟨r1, hf2, h⟩ := biS h
    refine ux_calli (va_runV (As := [.int x1]) (rest := []) ⟨hx, hb, hml, hown, hts⟩ (tX12_isKeeper l dC dI cy ad σ x1 H.size r1 hf2) (cwV 1 hts gX12_onShelf_X12_isKeeper rfl rfl rfl (by decide +kernel) ⟨Nat.le_of_ble_eq_true rfl, Nat.le_of_ble_eq_true rfl⟩) (wp_V hK hN hP hD (va_recv hK hP (ci := 12) (q0 := 0) rfl (wG_of (Nat.le_of_ble_eq_true rfl) rfl))) rfl rfl hl.1 rfl (lv_room (Nat.le_of_ble_eq_true rfl)) dX12_onShelf_2 ⟨Nat.le_of_ble_eq_true rfl, Nat.le_of_ble_eq_true rfl⟩) hD hS hA (fun H locs hP hD hS => ?_)
    refine lv_if_eq (tgt := 16) hx hb dX12_onShelf_5 (by decide) (fun hcd => ?_) (fun hcd => ?_)
    · have h := cdP hcd h
      refine lv_iconst (v := (-1)) hx hb dX12_onShelf_16 (by decide) ?_
      exact ux_iretP hx hb hr h hP hD hS hlocks dX12_onShelf_17
    · have h := cdN hcd h
      refine lv_aload_n hx hb dX12_onShelf_8 rfl (lv_at hl 0 rfl) ?_
      refine lv_iload_n hx hb dX12_onShelf_9 rfl (lv_at hl 2 rfl) ?_
      obtain ⟨r3, hf4, h⟩ := biS h
      refine ux_calli (va_runV (As := [.int x2]) (rest := []) ⟨hx, hb, hml, hown, hts⟩ (tX12_isName l dC dI cy ad σ x2 H.size r3 hf4) (cwV 1 hts gX12_onShelf_X12_isName rfl rfl rfl (by decide +kernel) ⟨Nat.le_of_ble_eq_true rfl, Nat.le_of_ble_eq_true rfl⟩) (wp_V hK hN hP hD (va_recv hK hP (ci := 12) (q0 := 0) rfl (wG_of (Nat.le_of_ble_eq_true rfl) rfl))) rfl rfl hl.1 rfl (lv_room (Nat.le_of_ble_eq_true rfl)) dX12_onShelf_10 ⟨Nat.le_of_ble_eq_true rfl, Nat.le_of_ble_eq_true rfl⟩) hD hS hA (fun H locs hP hD hS => ?_)
      refine lv_if_ne (tgt := 18) hx hb dX12_onShelf_13 (by decide) (fun hcd => ?_) (fun hcd => ?_)
      · have h := cdN hcd h
        refine lv_bipush (v := 40) hx hb dX12_onShelf_18 (by decide) ?_
        refine lv_iload_n hx hb dX12_onShelf_20 rfl (lv_at hl 1 rfl) ?_
        refine lv_imul hx hb dX12_onShelf_21 ?_
        refine lv_iload_n hx hb dX12_onShelf_22 rfl (lv_at hl 2 rfl) ?_
        refine lv_iadd hx hb dX12_onShelf_23 ?_
        refine lv_topi (fun v5 ev5 => ?_)
        have h := nmS h ev5
        refine lv_istore (lv' := [(4, .int v5), (0, .ref (ad 0)), (1, .int x1), (2, .int x2), (3, .int x3)]) hx hb dX12_onShelf_24 hl (by decide) rfl (fun ls hl => ?_)
        have hl := lv_sub hl [1, 2, 3, 4, 0] (l' := [(0, .ref (ad 0)), (1, .int x1), (2, .int x2), (3, .int x3), (4, .int v5)]) rfl
        refine lv_iload_n hx hb dX12_onShelf_26 rfl (lv_at hl 3 rfl) ?_
        refine lv_if_ne (tgt := 40) hx hb dX12_onShelf_27 (by decide) (fun hcd => ?_) (fun hcd => ?_)
        · have h := cdN hcd h
          refine lv_iload_n hx hb dX12_onShelf_40 rfl (lv_at hl 3 rfl) ?_
          refine lv_iconst (v := 1) hx hb dX12_onShelf_41 (by decide) ?_
          refine lv_icmp_ne (tgt := 55) hx hb dX12_onShelf_42 (by decide) (fun hcd => ?_) (fun hcd => ?_)
          · have h := cdN hcd h
            refine lv_iload_n hx hb dX12_onShelf_55 rfl (lv_at hl 3 rfl) ?_
            refine lv_iconst (v := 2) hx hb dX12_onShelf_56 (by decide) ?_
            refine lv_icmp_ne (tgt := 70) hx hb dX12_onShelf_57 (by decide) (fun hcd => ?_) (fun hcd => ?_)
            · have h := cdN hcd h
              refine lv_iload_n hx hb dX12_onShelf_70 rfl (lv_at hl 3 rfl) ?_
              refine lv_iconst (v := 3) hx hb dX12_onShelf_71 (by decide) ?_
              refine lv_icmp_ne (tgt := 85) hx hb dX12_onShelf_72 (by decide) (fun hcd => ?_) (fun hcd => ?_)
              · have h := cdN hcd h
                refine lv_iconst (v := (-1)) hx hb dX12_onShelf_85 (by decide) ?_
                exact ux_iretP hx hb hr h hP hD hS hlocks dX12_onShelf_86
              · have h := cdP hcd h
                refine lv_aload_n hx hb dX12_onShelf_75 rfl (lv_at hl 0 rfl) ?_
                refine ux_get (D := (dC, dI)) (ci := 12) (v := .ref (ad 23)) (C := RX12) (T := TX12) (M := 59) (fs := (oM ad (σ.1 0))) hx hb hts (fun _ h9 => List.mem_cons_of_mem _ (List.mem_append_right _ h9)) hown hK hP 0 (Nat.le_of_ble_eq_true rfl) rfl rfl 26 (by decide) (hts (.fieldLink RX12 77 "SeatsRoundModel" "pieces" "[I") (List.mem_of_getElem? (i := 4) rfl)) (fun _ h9 => h9) rfl dX12_onShelf_76 ?_
                refine lv_iload hx hb dX12_onShelf_79 (lv_at hl 4 rfl) ?_
                refine ux_iald hx hb hK hP 23 0 (Nat.le_of_ble_eq_true rfl) (cM_23 _ _ _ _) rfl h dX12_onShelf_81 (fun v6 h => ?_)
                refine lv_goto (tgt := 86) hx hb dX12_onShelf_82 (by decide) ?_
                exact ux_iretP hx hb hr h hP hD hS hlocks dX12_onShelf_86
            · have h := cdP hcd h
              refine lv_aload_n hx hb dX12_onShelf_60 rfl (lv_at hl 0 rfl) ?_
              refine ux_get (D := (dC, dI)) (ci := 12) (v := .ref (ad 22)) (C := RX12) (T := TX12) (M := 59) (fs := (oM ad (σ.1 0))) hx hb hts (fun _ h9 => List.mem_cons_of_mem _ (List.mem_append_right _ h9)) hown hK hP 0 (Nat.le_of_ble_eq_true rfl) rfl rfl 25 (by decide) (hts (.fieldLink RX12 74 "SeatsRoundModel" "keptFor" "[I") (List.mem_of_getElem? (i := 3) rfl)) (fun _ h9 => h9) rfl dX12_onShelf_61 ?_
              refine lv_iload hx hb dX12_onShelf_64 (lv_at hl 4 rfl) ?_
              refine ux_iald hx hb hK hP 22 0 (Nat.le_of_ble_eq_true rfl) (cM_22 _ _ _ _) rfl h dX12_onShelf_66 (fun v7 h => ?_)
              refine lv_goto (tgt := 86) hx hb dX12_onShelf_67 (by decide) ?_
              exact ux_iretP hx hb hr h hP hD hS hlocks dX12_onShelf_86
          · have h := cdP hcd h
            refine lv_aload_n hx hb dX12_onShelf_45 rfl (lv_at hl 0 rfl) ?_
            refine ux_get (D := (dC, dI)) (ci := 12) (v := .ref (ad 21)) (C := RX12) (T := TX12) (M := 59) (fs := (oM ad (σ.1 0))) hx hb hts (fun _ h9 => List.mem_cons_of_mem _ (List.mem_append_right _ h9)) hown hK hP 0 (Nat.le_of_ble_eq_true rfl) rfl rfl 24 (by decide) (hts (.fieldLink RX12 71 "SeatsRoundModel" "kept" "[I") (List.mem_of_getElem? (i := 2) rfl)) (fun _ h9 => h9) rfl dX12_onShelf_46 ?_
            refine lv_iload hx hb dX12_onShelf_49 (lv_at hl 4 rfl) ?_
            refine ux_iald hx hb hK hP 21 0 (Nat.le_of_ble_eq_true rfl) (cM_21 _ _ _ _) rfl h dX12_onShelf_51 (fun v8 h => ?_)
            refine lv_goto (tgt := 86) hx hb dX12_onShelf_52 (by decide) ?_
            exact ux_iretP hx hb hr h hP hD hS hlocks dX12_onShelf_86
        · have h := cdP hcd h
          refine lv_aload_n hx hb dX12_onShelf_30 rfl (lv_at hl 0 rfl) ?_
          refine ux_get (D := (dC, dI)) (ci := 12) (v := .ref (ad 20)) (C := RX12) (T := TX12) (M := 59) (fs := (oM ad (σ.1 0))) hx hb hts (fun _ h9 => List.mem_cons_of_mem _ (List.mem_append_right _ h9)) hown hK hP 0 (Nat.le_of_ble_eq_true rfl) rfl rfl 23 (by decide) (hts (.fieldLink RX12 68 "SeatsRoundModel" "version" "[I") (List.mem_of_getElem? (i := 1) rfl)) (fun _ h9 => h9) rfl dX12_onShelf_31 ?_
          refine lv_iload hx hb dX12_onShelf_34 (lv_at hl 4 rfl) ?_
          refine ux_iald hx hb hK hP 20 0 (Nat.le_of_ble_eq_true rfl) (cM_20 _ _ _ _) rfl h dX12_onShelf_36 (fun v9 h => ?_)
          refine lv_goto (tgt := 86) hx hb dX12_onShelf_37 (by decide) ?_
          exact ux_iretP hx hb hr h hP hD hS hlocks dX12_onShelf_86
      · have h := cdP hcd h
        refine lv_iconst (v := (-1)) hx hb dX12_onShelf_16 (by decide) ?_
        exact ux_iretP hx hb hr h hP hD hS hlocks dX12_onShelf_17
  intro H locs ls h hP hD hS hl
  exact w0 σ a1 a2 a3 H locs ls h hP hD hS (lv_sub hl [0, 1, 2, 3] rfl)

set_option maxHeartbeats 4000000 in
set_option maxRecDepth 100000 in
theorem tX12_fall (l : Launch) (dC : Nat → ClassId) (dI : Nat → Nat → Nat) (cy : Nat → ClassId) (ad : Nat → Nat) (σ : S2) (a1 : Int32) (a2 : Int32) (sz : Nat) (r0 : Int32) (σ9 : S2) (h : fX12_fall σ a1 a2 = some (r0, σ9)) : Met l yX12_fall wsX12_fall ({ frames := 3, cells := 0, slots := 0, locals := 66 }) (va_Pc [.ref (ad 0), .int a1, .int a2] (wPre (dC, dI) cy (wG (cM cy ad) ad 40 σ) sz)) (va_Qi (fun (r : Int32) (_ : Unit) => r = r0) (fun (_ : Unit) t => wAt (dC, dI) (va_A (wG (cM cy ad) ad 40 σ) sz) (wG (cM cy ad) ad 40 σ9) t) (va_A (wG (cM cy ad) ad 40 σ) sz)) 0 0 (va_A (wG (cM cy ad) ad 40 σ) sz) := by
  refine Met.ofW (cc := cX12_fall) (maxL := 5) (ret := (some .int)) (by decide) rfl ?_
  intro p e s m args below meth c s₁ B hml hv
  obtain ⟨rfl, hsz, hP, hK, hD0, hN⟩ := hv
  have hx := B.exec
  have hb := B.bytes
  have hr := B.returns
  have hts := atoms_spec (ws := wsX12_fall) B.pre
  have hown : s.vm.findClass RX12 = some m.cls := findClass_of_methodNamed B.named
  have hlocks := B.notSynchronized
  subst hsz
  have hD := hD0.self (sz := s.heap.size)
  generalize hAe : va_A (wG (cM cy ad) ad 40 σ) s.heap.size = A at hD ⊢
  have hA : ∀ q : Nat, s.heap.size ≤ q → A q := fun q h => by rw [← hAe]; exact Or.inr h
  have hS : va_S A s.heap s.heap [] := va_S.rf
  have hl := lv_entry ([.ref (ad 0), .int a1, .int a2]) (n := 5) (Nat.le_of_ble_eq_true rfl)
  rw [lg_entry_eq]
  generalize (lg_sl ([.ref (ad 0), .int a1, .int a2]) ++ List.replicate (5 - (lg_sl ([.ref (ad 0), .int a1, .int a2])).length) Slot.unset).toArray = ls at hl ⊢
  have hl : lv_has ls 5 [(0, .ref (ad 0)), (1, .int a1), (2, .int a2)] := hl
  unfold fX12_fall at h
  clear hAe hD0
  suffices HH : ∀ (H : Heap) (locs : List Loc) (ls : Array Slot), fX12_fall_0 σ a1 a2 = some (r0, σ9) → va_P (dC, dI) vwCl (wG (cM cy ad) ad 40 σ) H → va_D A (wG (cM cy ad) ad 40 σ) → va_S A s.heap H locs → lv_has ls 5 [(0, .ref (ad 0)), (1, .int a1), (2, .int a2)] → W p l e (headSpec wsX12_fall ({ frames := 3, cells := 0, slots := 0, locals := 66 })).room s m (#[.ref (ad 0), .int a1, .int a2]) below meth c H locs 0 0 (MQ below (va_Qi (fun (r : Int32) (_ : Unit) => r = r0) (fun (_ : Unit) t => wAt (dC, dI) A (wG (cM cy ad) ad 40 σ9) t) A) (#[.ref (ad 0), .int a1, .int a2]) s 0 0 A) (F0 m 0 ls []) from HH s.heap [] ls h hP hD hS hl
  have w53 : ∀ (n : Nat), ∀ (σ : S2) (x1 : Int32) (x2 : Int32) (x3 : Int32) (x4 : Int32) (H : Heap) (locs : List Loc) (ls : Array Slot), fX12_fall_53 n σ x1 x2 x3 x4 = some (r0, σ9) → va_P (dC, dI) vwCl (wG (cM cy ad) ad 40 σ) H → va_D A (wG (cM cy ad) ad 40 σ) → va_S A s.heap H locs → lv_has ls 5 [(0, .ref (ad 0)), (1, .int x1), (2, .int x2), (3, .int x3), (4, .int x4)] → W p l e (headSpec wsX12_fall ({ frames := 3, cells := 0, slots := 0, locals := 66 })).room s m (#[.ref (ad 0), .int a1, .int a2]) below meth c H locs 0 0 (MQ below (va_Qi (fun (r : Int32) (_ : Unit) => r = r0) (fun (_ : Unit) t => wAt (dC, dI) A (wG (cM cy ad) ad 40 σ9) t) A) (#[.ref (ad 0), .int a1, .int a2]) s 0 0 A) (F0 m 53 ls []) := by
    intro n
    induction n with
    | zero => intro σ x1 x2 x3 x4 H locs ls h; cases h
    | succ n ih =>
    intro σ x1 x2 x3 x4 H locs ls h hP hD hS hl
    unfold fX12_fall_53 at h
    refine lv_iload hx hb dX12_fall_53 (lv_at hl 4 rfl) ?_
    refine lv_bipush (v := 40) hx hb dX12_fall_55 (by decide) ?_
    refine lv_icmp_ge (tgt := 111) hx hb dX12_fall_57 (by decide) (fun hcd => ?_) (fun hcd => ?_)
    · have h := cdP hcd h
      refine lv_iload_n hx hb dX12_fall_111 rfl (lv_at hl 3 rfl) ?_
      exact ux_iret hx hb hr h hP hD hS hlocks dX12_fall_112
    · have h := cdN hcd h
      refine lv_iload_n hx hb dX12_fall_60 rfl (lv_at hl 2 rfl) ?_
      refine lv_iconst (v := 1) hx hb dX12_fall_61 (by decide) ?_
      refine lv_icmp_ne (tgt := 111) hx hb dX12_fall_62 (by decide) (fun hcd => ?_) (fun hcd => ?_)
      · have h := cdN hcd h
        refine lv_iload_n hx hb dX12_fall_111 rfl (lv_at hl 3 rfl) ?_
        exact ux_iret hx hb hr h hP hD hS hlocks dX12_fall_112
      · have h := cdP hcd h
        refine lv_aload_n hx hb dX12_fall_65 rfl (lv_at hl 0 rfl) ?_
        refine ux_get (D := (dC, dI)) (ci := 12) (v := .ref (ad 20)) (C := RX12) (T := TX12) (M := 59) (fs := (oM ad (σ.1 0))) hx hb hts (fun _ h9 => List.mem_cons_of_mem _ (List.mem_append_right _ h9)) hown hK hP 0 (Nat.le_of_ble_eq_true rfl) rfl rfl 23 (by decide) (hts (.fieldLink RX12 68 "SeatsRoundModel" "version" "[I") (List.mem_of_getElem? (i := 2) rfl)) (fun _ h9 => h9) rfl dX12_fall_66 ?_
        refine lv_bipush (v := 40) hx hb dX12_fall_69 (by decide) ?_
        refine lv_iload_n hx hb dX12_fall_71 rfl (lv_at hl 1 rfl) ?_
        refine lv_imul hx hb dX12_fall_72 ?_
        refine lv_iload hx hb dX12_fall_73 (lv_at hl 4 rfl) ?_
        refine lv_iadd hx hb dX12_fall_75 ?_
        refine lv_iconst (v := 0) hx hb dX12_fall_76 (by decide) ?_
        change W _ _ _ _ _ _ _ _ _ _ _ _ _ _ _ (F0 m 77 ls [.int 0, .int ((40 * x1) + x4), .ref (ad 20)])
        refine ux_iast hx hb hK hP hD hS 20 0 (Nat.le_of_ble_eq_true rfl) (fun _ => (cM_20 _ _ _ _)) rfl h dX12_fall_77 (fun σ1 H locs h hP hD hS => ?_)
        refine lv_aload_n hx hb dX12_fall_78 rfl (lv_at hl 0 rfl) ?_
        refine ux_get (D := (dC, dI)) (ci := 12) (v := .ref (ad 21)) (C := RX12) (T := TX12) (M := 59) (fs := (oM ad (σ1.1 0))) hx hb hts (fun _ h9 => List.mem_cons_of_mem _ (List.mem_append_right _ h9)) hown hK hP 0 (Nat.le_of_ble_eq_true rfl) rfl rfl 24 (by decide) (hts (.fieldLink RX12 71 "SeatsRoundModel" "kept" "[I") (List.mem_of_getElem? (i := 3) rfl)) (fun _ h9 => h9) rfl dX12_fall_79 ?_
        refine lv_bipush (v := 40) hx hb dX12_fall_82 (by decide) ?_
        refine lv_iload_n hx hb dX12_fall_84 rfl (lv_at hl 1 rfl) ?_
        refine lv_imul hx hb dX12_fall_85 ?_
        refine lv_iload hx hb dX12_fall_86 (lv_at hl 4 rfl) ?_
        refine lv_iadd hx hb dX12_fall_88 ?_
        refine lv_iconst (v := 0) hx hb dX12_fall_89 (by decide) ?_
        change W _ _ _ _ _ _ _ _ _ _ _ _ _ _ _ (F0 m 90 ls [.int 0, .int ((40 * x1) + x4), .ref (ad 21)])
        refine ux_iast hx hb hK hP hD hS 21 0 (Nat.le_of_ble_eq_true rfl) (fun _ => (cM_21 _ _ _ _)) rfl h dX12_fall_90 (fun σ2 H locs h hP hD hS => ?_)
        refine lv_aload_n hx hb dX12_fall_91 rfl (lv_at hl 0 rfl) ?_
        refine ux_get (D := (dC, dI)) (ci := 12) (v := .ref (ad 22)) (C := RX12) (T := TX12) (M := 59) (fs := (oM ad (σ2.1 0))) hx hb hts (fun _ h9 => List.mem_cons_of_mem _ (List.mem_append_right _ h9)) hown hK hP 0 (Nat.le_of_ble_eq_true rfl) rfl rfl 25 (by decide) (hts (.fieldLink RX12 74 "SeatsRoundModel" "keptFor" "[I") (List.mem_of_getElem? (i := 4) rfl)) (fun _ h9 => h9) rfl dX12_fall_92 ?_
        refine lv_bipush (v := 40) hx hb dX12_fall_95 (by decide) ?_
        refine lv_iload_n hx hb dX12_fall_97 rfl (lv_at hl 1 rfl) ?_
        refine lv_imul hx hb dX12_fall_98 ?_
        refine lv_iload hx hb dX12_fall_99 (lv_at hl 4 rfl) ?_
        refine lv_iadd hx hb dX12_fall_101 ?_
        refine lv_bipush (v := (-2)) hx hb dX12_fall_102 (by decide) ?_
        change W _ _ _ _ _ _ _ _ _ _ _ _ _ _ _ (F0 m 104 ls [.int (-2), .int ((40 * x1) + x4), .ref (ad 22)])
        refine ux_iast hx hb hK hP hD hS 22 0 (Nat.le_of_ble_eq_true rfl) (fun _ => (cM_22 _ _ _ _)) rfl h dX12_fall_104 (fun σ3 H locs h hP hD hS => ?_)
        obtain ⟨v4, ev4⟩ : ∃ y : Int32, y = x4 + 1 := ⟨_, rfl⟩
        have h := nmS h ev4
        refine lv_iinc (v := v4) (lv' := [(4, .int v4), (0, .ref (ad 0)), (1, .int x1), (2, .int x2), (3, .int x3)]) hx hb dX12_fall_105 hl (k := 4) rfl (by rw [ev4]; rfl) (by decide) rfl (fun ls hl => ?_)
        have hl := lv_sub hl [1, 2, 3, 4, 0] (l' := [(0, .ref (ad 0)), (1, .int x1), (2, .int x2), (3, .int x3), (4, .int v4)]) rfl
        refine lv_goto (tgt := 53) hx hb dX12_fall_108 (by decide) ?_
        exact ih σ3 x1 x2 x3 v4 H locs ls h hP hD hS hl
  have w49 : ∀ (σ : S2) (x1 : Int32) (x2 : Int32) (x3 : Int32) (s0 : Int32) (s1 : Int32) (H : Heap) (locs : List Loc) (ls : Array Slot), fX12_fall_49 σ x1 x2 x3 s0 s1 = some (r0, σ9) → va_P (dC, dI) vwCl (wG (cM cy ad) ad 40 σ) H → va_D A (wG (cM cy ad) ad 40 σ) → va_S A s.heap H locs → lv_has ls 5 [(0, .ref (ad 0)), (1, .int x1), (2, .int x2), (3, .int x3)] → W p l e (headSpec wsX12_fall ({ frames := 3, cells := 0, slots := 0, locals := 66 })).room s m (#[.ref (ad 0), .int a1, .int a2]) below meth c H locs 0 0 (MQ below (va_Qi (fun (r : Int32) (_ : Unit) => r = r0) (fun (_ : Unit) t => wAt (dC, dI) A (wG (cM cy ad) ad 40 σ9) t) A) (#[.ref (ad 0), .int a1, .int a2]) s 0 0 A) (F0 m 49 ls [.int s0, .int s1, .ref (ad 7)]) := by
    intro σ x1 x2 x3 s0 s1 H locs ls h hP hD hS hl
    unfold fX12_fall_49 at h
    refine ux_zast hx hb hK hP hD hS 7 2 (Nat.le_of_ble_eq_true rfl) (fun _ => (cM_7 _ _ _ _)) rfl h dX12_fall_49 (fun σ5 H locs h hP hD hS => ?_)
    refine lv_iconst (v := 0) hx hb dX12_fall_50 (by decide) ?_
    refine lv_istore (lv' := [(4, .int 0), (0, .ref (ad 0)), (1, .int x1), (2, .int x2), (3, .int x3)]) hx hb dX12_fall_51 hl (by decide) rfl (fun ls hl => ?_)
    have hl := lv_sub hl [1, 2, 3, 4, 0] (l' := [(0, .ref (ad 0)), (1, .int x1), (2, .int x2), (3, .int x3), (4, .int 0)]) rfl
    exact w53 FU σ5 x1 x2 x3 0 H locs ls h hP hD hS hl
  have w33 : ∀ (σ : S2) (x1 : Int32) (x2 : Int32) (s0 : Int32) (H : Heap) (locs : List Loc) (ls : Array Slot), fX12_fall_33 σ x1 x2 s0 = some (r0, σ9) → va_P (dC, dI) vwCl (wG (cM cy ad) ad 40 σ) H → va_D A (wG (cM cy ad) ad 40 σ) → va_S A s.heap H locs → lv_has ls 5 [(0, .ref (ad 0)), (1, .int x1), (2, .int x2)] → W p l e (headSpec wsX12_fall ({ frames := 3, cells := 0, slots := 0, locals := 66 })).room s m (#[.ref (ad 0), .int a1, .int a2]) below meth c H locs 0 0 (MQ below (va_Qi (fun (r : Int32) (_ : Unit) => r = r0) (fun (_ : Unit) t => wAt (dC, dI) A (wG (cM cy ad) ad 40 σ9) t) A) (#[.ref (ad 0), .int a1, .int a2]) s 0 0 A) (F0 m 33 ls [.int s0]) := by
    intro σ x1 x2 s0 H locs ls h hP hD hS hl
    unfold fX12_fall_33 at h
    refine lv_istore_n (lv' := [(3, .int s0), (0, .ref (ad 0)), (1, .int x1), (2, .int x2)]) hx hb dX12_fall_33 rfl hl (by decide) rfl (fun ls hl => ?_)
    have hl := lv_sub hl [1, 2, 3, 0] (l' := [(0, .ref (ad 0)), (1, .int x1), (2, .int x2), (3, .int s0)]) rfl
    refine lv_aload_n hx hb dX12_fall_34 rfl (lv_at hl 0 rfl) ?_
    refine ux_get (D := (dC, dI)) (ci := 12) (v := .ref (ad 7)) (C := RX12) (T := TX12) (M := 59) (fs := (oM ad (σ.1 0))) hx hb hts (fun _ h9 => List.mem_cons_of_mem _ (List.mem_append_right _ h9)) hown hK hP 0 (Nat.le_of_ble_eq_true rfl) rfl rfl 8 (by decide) (hts (.fieldLink RX12 28 "SeatsRoundModel" "isFallen" "[Z") (List.mem_of_getElem? (i := 1) rfl)) (fun _ h9 => h9) rfl dX12_fall_35 ?_
    refine lv_iload_n hx hb dX12_fall_38 rfl (lv_at hl 1 rfl) ?_
    refine lv_iload_n hx hb dX12_fall_39 rfl (lv_at hl 2 rfl) ?_
    refine lv_iconst (v := 1) hx hb dX12_fall_40 (by decide) ?_
    refine lv_icmp_ne (tgt := 48) hx hb dX12_fall_41 (by decide) (fun hcd => ?_) (fun hcd => ?_)
    · have h := cdN hcd h
      refine lv_iconst (v := 0) hx hb dX12_fall_48 (by decide) ?_
      exact w49 σ x1 x2 s0 0 x1 H locs ls h hP hD hS hl
    · have h := cdP hcd h
      refine lv_iconst (v := 1) hx hb dX12_fall_44 (by decide) ?_
      refine lv_goto (tgt := 49) hx hb dX12_fall_45 (by decide) ?_
      exact w49 σ x1 x2 s0 1 x1 H locs ls h hP hD hS hl
  have w0 : ∀ (σ : S2) (x1 : Int32) (x2 : Int32) (H : Heap) (locs : List Loc) (ls : Array Slot), fX12_fall_0 σ x1 x2 = some (r0, σ9) → va_P (dC, dI) vwCl (wG (cM cy ad) ad 40 σ) H → va_D A (wG (cM cy ad) ad 40 σ) → va_S A s.heap H locs → lv_has ls 5 [(0, .ref (ad 0)), (1, .int x1), (2, .int x2)] → W p l e (headSpec wsX12_fall ({ frames := 3, cells := 0, slots := 0, locals := 66 })).room s m (#[.ref (ad 0), .int a1, .int a2]) below meth c H locs 0 0 (MQ below (va_Qi (fun (r : Int32) (_ : Unit) => r = r0) (fun (_ : Unit) t => wAt (dC, dI) A (wG (cM cy ad) ad 40 σ9) t) A) (#[.ref (ad 0), .int a1, .int a2]) s 0 0 A) (F0 m 0 ls []) := by
    intro σ x1 x2 H locs ls h hP hD hS hl
    unfold fX12_fall_0 at h
    refine lv_aload_n hx hb dX12_fall_0 rfl (lv_at hl 0 rfl) ?_
    refine lv_iload_n hx hb dX12_fall_1 rfl (lv_at hl 1 rfl) ?_
    obtain ⟨r6, hf7, h⟩ := biS h
    refine ux_calli (va_runV (As := [.int x1]) (rest := []) ⟨hx, hb, hml, hown, hts⟩ (tX12_isKeeper l dC dI cy ad σ x1 H.size r6 hf7) (cwV 1 hts gX12_fall_X12_isKeeper rfl rfl rfl (by decide +kernel) ⟨Nat.le_of_ble_eq_true rfl, Nat.le_of_ble_eq_true rfl⟩) (wp_V hK hN hP hD (va_recv hK hP (ci := 12) (q0 := 0) rfl (wG_of (Nat.le_of_ble_eq_true rfl) rfl))) rfl rfl hl.1 rfl (lv_room (Nat.le_of_ble_eq_true rfl)) dX12_fall_2 ⟨Nat.le_of_ble_eq_true rfl, Nat.le_of_ble_eq_true rfl⟩) hD hS hA (fun H locs hP hD hS => ?_)
    refine lv_if_eq (tgt := 17) hx hb dX12_fall_5 (by decide) (fun hcd => ?_) (fun hcd => ?_)
    · have h := cdP hcd h
      refine lv_iconst (v := (-1)) hx hb dX12_fall_17 (by decide) ?_
      exact ux_iret hx hb hr h hP hD hS hlocks dX12_fall_18
    · have h := cdN hcd h
      refine lv_iload_n hx hb dX12_fall_8 rfl (lv_at hl 2 rfl) ?_
      refine lv_iconst (v := 0) hx hb dX12_fall_9 (by decide) ?_
      refine lv_iconst (v := 1) hx hb dX12_fall_10 (by decide) ?_
      obtain ⟨r8, hf9, h⟩ := biS h
      refine ux_calli (va_runS (As := [.int x2, .int 0, .int 1]) (rest := []) ⟨hx, hb, hml, hown, hts⟩ (tX12_in l dC dI cy ad σ x2 0 1 H.size r8 hf9) (va_cwS 3 hts gX12_fall_X12_in rfl rfl rfl (by decide +kernel) ⟨Nat.le_of_ble_eq_true rfl, Nat.le_of_ble_eq_true rfl⟩) (wp_S hK hN hP hD) rfl rfl hl.1 rfl (lv_room (Nat.le_of_ble_eq_true rfl)) dX12_fall_11 ⟨Nat.le_of_ble_eq_true rfl, Nat.le_of_ble_eq_true rfl⟩) hD hS hA (fun H locs hP hD hS => ?_)
      refine lv_if_ne (tgt := 19) hx hb dX12_fall_14 (by decide) (fun hcd => ?_) (fun hcd => ?_)
      · have h := cdN hcd h
        refine lv_aload_n hx hb dX12_fall_19 rfl (lv_at hl 0 rfl) ?_
        refine ux_get (D := (dC, dI)) (ci := 12) (v := .ref (ad 7)) (C := RX12) (T := TX12) (M := 59) (fs := (oM ad (σ.1 0))) hx hb hts (fun _ h9 => List.mem_cons_of_mem _ (List.mem_append_right _ h9)) hown hK hP 0 (Nat.le_of_ble_eq_true rfl) rfl rfl 8 (by decide) (hts (.fieldLink RX12 28 "SeatsRoundModel" "isFallen" "[Z") (List.mem_of_getElem? (i := 1) rfl)) (fun _ h9 => h9) rfl dX12_fall_20 ?_
        refine lv_iload_n hx hb dX12_fall_23 rfl (lv_at hl 1 rfl) ?_
        refine ux_zald hx hb hK hP 7 2 (Nat.le_of_ble_eq_true rfl) (cM_7 _ _ _ _) rfl h dX12_fall_24 (fun v10 h => ?_)
        refine lv_if_eq (tgt := 32) hx hb dX12_fall_25 (by decide) (fun hcd => ?_) (fun hcd => ?_)
        · have h := cdP hcd h
          refine lv_iconst (v := 0) hx hb dX12_fall_32 (by decide) ?_
          exact w33 σ x1 x2 0 H locs ls h hP hD hS hl
        · have h := cdN hcd h
          refine lv_iconst (v := 1) hx hb dX12_fall_28 (by decide) ?_
          refine lv_goto (tgt := 33) hx hb dX12_fall_29 (by decide) ?_
          exact w33 σ x1 x2 1 H locs ls h hP hD hS hl
      · have h := cdP hcd h
        refine lv_iconst (v := (-1)) hx hb dX12_fall_17 (by decide) ?_
        exact ux_iret hx hb hr h hP hD hS hlocks dX12_fall_18
  intro H locs ls h hP hD hS hl
  exact w0 σ a1 a2 H locs ls h hP hD hS (lv_sub hl [0, 1, 2] rfl)

set_option maxHeartbeats 4000000 in
set_option maxRecDepth 100000 in
theorem tX12_half (l : Launch) (dC : Nat → ClassId) (dI : Nat → Nat → Nat) (cy : Nat → ClassId) (ad : Nat → Nat) (σ : S2) (a1 : Int32) (a2 : Int32) (a3 : Int32) (sz : Nat) (r0 : Int32) (σ9 : S2) (h : fX12_half σ a1 a2 a3 = some (r0, σ9)) : Met l yX12_half wsX12_half ({ frames := 3, cells := 0, slots := 0, locals := 66 }) (va_Pc [.ref (ad 0), .int a1, .int a2, .int a3] (wPre (dC, dI) cy (wG (cM cy ad) ad 40 σ) sz)) (va_Qi (fun (r : Int32) (_ : Unit) => r = r0) (fun (_ : Unit) t => wAt (dC, dI) (va_A (wG (cM cy ad) ad 40 σ) sz) (wG (cM cy ad) ad 40 σ9) t) (va_A (wG (cM cy ad) ad 40 σ) sz)) 0 0 (va_A (wG (cM cy ad) ad 40 σ) sz) := by
  refine Met.ofW (cc := cX12_half) (maxL := 6) (ret := (some .int)) (by decide) rfl ?_
  intro p e s m args below meth c s₁ B hml hv
  obtain ⟨rfl, hsz, hP, hK, hD0, hN⟩ := hv
  have hx := B.exec
  have hb := B.bytes
  have hr := B.returns
  have hts := atoms_spec (ws := wsX12_half) B.pre
  have hown : s.vm.findClass RX12 = some m.cls := findClass_of_methodNamed B.named
  have hlocks := B.notSynchronized
  subst hsz
  have hD := hD0.self (sz := s.heap.size)
  generalize hAe : va_A (wG (cM cy ad) ad 40 σ) s.heap.size = A at hD ⊢
  have hA : ∀ q : Nat, s.heap.size ≤ q → A q := fun q h => by rw [← hAe]; exact Or.inr h
  have hS : va_S A s.heap s.heap [] := va_S.rf
  have hl := lv_entry ([.ref (ad 0), .int a1, .int a2, .int a3]) (n := 6) (Nat.le_of_ble_eq_true rfl)
  rw [lg_entry_eq]
  generalize (lg_sl ([.ref (ad 0), .int a1, .int a2, .int a3]) ++ List.replicate (6 - (lg_sl ([.ref (ad 0), .int a1, .int a2, .int a3])).length) Slot.unset).toArray = ls at hl ⊢
  have hl : lv_has ls 6 [(0, .ref (ad 0)), (1, .int a1), (2, .int a2), (3, .int a3)] := hl
  unfold fX12_half at h
  clear hAe hD0
  suffices HH : ∀ (H : Heap) (locs : List Loc) (ls : Array Slot), fX12_half_0 σ a1 a2 a3 = some (r0, σ9) → va_P (dC, dI) vwCl (wG (cM cy ad) ad 40 σ) H → va_D A (wG (cM cy ad) ad 40 σ) → va_S A s.heap H locs → lv_has ls 6 [(0, .ref (ad 0)), (1, .int a1), (2, .int a2), (3, .int a3)] → W p l e (headSpec wsX12_half ({ frames := 3, cells := 0, slots := 0, locals := 66 })).room s m (#[.ref (ad 0), .int a1, .int a2, .int a3]) below meth c H locs 0 0 (MQ below (va_Qi (fun (r : Int32) (_ : Unit) => r = r0) (fun (_ : Unit) t => wAt (dC, dI) A (wG (cM cy ad) ad 40 σ9) t) A) (#[.ref (ad 0), .int a1, .int a2, .int a3]) s 0 0 A) (F0 m 0 ls []) from HH s.heap [] ls h hP hD hS hl
  have w68 : ∀ (σ : S2) (x4 : Int32) (H : Heap) (locs : List Loc) (ls : Array Slot), fX12_half_68 σ x4 = some (r0, σ9) → va_P (dC, dI) vwCl (wG (cM cy ad) ad 40 σ) H → va_D A (wG (cM cy ad) ad 40 σ) → va_S A s.heap H locs → lv_has ls 6 [(0, .ref (ad 0)), (4, .int x4)] → W p l e (headSpec wsX12_half ({ frames := 3, cells := 0, slots := 0, locals := 66 })).room s m (#[.ref (ad 0), .int a1, .int a2, .int a3]) below meth c H locs 0 0 (MQ below (va_Qi (fun (r : Int32) (_ : Unit) => r = r0) (fun (_ : Unit) t => wAt (dC, dI) A (wG (cM cy ad) ad 40 σ9) t) A) (#[.ref (ad 0), .int a1, .int a2, .int a3]) s 0 0 A) (F0 m 68 ls []) := by
    intro σ x4 H locs ls h hP hD hS hl
    unfold fX12_half_68 at h
    refine lv_aload_n hx hb dX12_half_68 rfl (lv_at hl 0 rfl) ?_
    refine ux_get (D := (dC, dI)) (ci := 12) (v := .ref (ad 23)) (C := RX12) (T := TX12) (M := 59) (fs := (oM ad (σ.1 0))) hx hb hts (fun _ h9 => List.mem_cons_of_mem _ (List.mem_append_right _ h9)) hown hK hP 0 (Nat.le_of_ble_eq_true rfl) rfl rfl 26 (by decide) (hts (.fieldLink RX12 77 "SeatsRoundModel" "pieces" "[I") (List.mem_of_getElem? (i := 2) rfl)) (fun _ h9 => h9) rfl dX12_half_69 ?_
    refine lv_iload hx hb dX12_half_72 (lv_at hl 1 rfl) ?_
    refine lv_iconst (v := 0) hx hb dX12_half_74 (by decide) ?_
    refine ux_iast hx hb hK hP hD hS 23 0 (Nat.le_of_ble_eq_true rfl) (fun _ => (cM_23 _ _ _ _)) rfl h dX12_half_75 (fun σ1 H locs h hP hD hS => ?_)
    refine lv_iconst (v := 0) hx hb dX12_half_76 (by decide) ?_
    exact ux_iret hx hb hr h hP hD hS hlocks dX12_half_77
  have w194 : ∀ (σ : S2) (x4 : Int32) (s0 : Int32) (s1 : Int32) (H : Heap) (locs : List Loc) (ls : Array Slot), fX12_half_194 σ x4 s0 s1 = some (r0, σ9) → va_P (dC, dI) vwCl (wG (cM cy ad) ad 40 σ) H → va_D A (wG (cM cy ad) ad 40 σ) → va_S A s.heap H locs → lv_has ls 6 [(0, .ref (ad 0)), (4, .int x4)] → W p l e (headSpec wsX12_half ({ frames := 3, cells := 0, slots := 0, locals := 66 })).room s m (#[.ref (ad 0), .int a1, .int a2, .int a3]) below meth c H locs 0 0 (MQ below (va_Qi (fun (r : Int32) (_ : Unit) => r = r0) (fun (_ : Unit) t => wAt (dC, dI) A (wG (cM cy ad) ad 40 σ9) t) A) (#[.ref (ad 0), .int a1, .int a2, .int a3]) s 0 0 A) (F0 m 194 ls [.int s0, .int s1, .ref (ad 20)]) := by
    intro σ x4 s0 s1 H locs ls h hP hD hS hl
    unfold fX12_half_194 at h
    refine ux_iast hx hb hK hP hD hS 20 0 (Nat.le_of_ble_eq_true rfl) (fun _ => (cM_20 _ _ _ _)) rfl h dX12_half_194 (fun σ2 H locs h hP hD hS => ?_)
    refine lv_aload_n hx hb dX12_half_195 rfl (lv_at hl 0 rfl) ?_
    refine ux_get (D := (dC, dI)) (ci := 12) (v := .ref (ad 20)) (C := RX12) (T := TX12) (M := 59) (fs := (oM ad (σ2.1 0))) hx hb hts (fun _ h9 => List.mem_cons_of_mem _ (List.mem_append_right _ h9)) hown hK hP 0 (Nat.le_of_ble_eq_true rfl) rfl rfl 23 (by decide) (hts (.fieldLink RX12 68 "SeatsRoundModel" "version" "[I") (List.mem_of_getElem? (i := 1) rfl)) (fun _ h9 => h9) rfl dX12_half_196 ?_
    refine lv_iload hx hb dX12_half_199 (lv_at hl 1 rfl) ?_
    refine lv_iconst (v := 0) hx hb dX12_half_201 (by decide) ?_
    refine ux_iast hx hb hK hP hD hS 20 0 (Nat.le_of_ble_eq_true rfl) (fun _ => (cM_20 _ _ _ _)) rfl h dX12_half_202 (fun σ3 H locs h hP hD hS => ?_)
    refine lv_aload_n hx hb dX12_half_203 rfl (lv_at hl 0 rfl) ?_
    refine ux_get (D := (dC, dI)) (ci := 12) (v := .ref (ad 23)) (C := RX12) (T := TX12) (M := 59) (fs := (oM ad (σ3.1 0))) hx hb hts (fun _ h9 => List.mem_cons_of_mem _ (List.mem_append_right _ h9)) hown hK hP 0 (Nat.le_of_ble_eq_true rfl) rfl rfl 26 (by decide) (hts (.fieldLink RX12 77 "SeatsRoundModel" "pieces" "[I") (List.mem_of_getElem? (i := 2) rfl)) (fun _ h9 => h9) rfl dX12_half_204 ?_
    refine lv_iload hx hb dX12_half_207 (lv_at hl 1 rfl) ?_
    refine lv_iconst (v := 0) hx hb dX12_half_209 (by decide) ?_
    refine ux_iast hx hb hK hP hD hS 23 0 (Nat.le_of_ble_eq_true rfl) (fun _ => (cM_23 _ _ _ _)) rfl h dX12_half_210 (fun σ4 H locs h hP hD hS => ?_)
    refine lv_iconst (v := 3) hx hb dX12_half_211 (by decide) ?_
    exact ux_iret hx hb hr h hP hD hS hlocks dX12_half_212
  have w118 : ∀ (σ : S2) (x1 : Int32) (x3 : Int32) (x4 : Int32) (s0 : Int32) (s1 : Int32) (H : Heap) (locs : List Loc) (ls : Array Slot), fX12_half_118 σ x1 x3 x4 s0 s1 = some (r0, σ9) → va_P (dC, dI) vwCl (wG (cM cy ad) ad 40 σ) H → va_D A (wG (cM cy ad) ad 40 σ) → va_S A s.heap H locs → lv_has ls 6 [(0, .ref (ad 0)), (1, .int x1), (3, .int x3), (4, .int x4)] → W p l e (headSpec wsX12_half ({ frames := 3, cells := 0, slots := 0, locals := 66 })).room s m (#[.ref (ad 0), .int a1, .int a2, .int a3]) below meth c H locs 0 0 (MQ below (va_Qi (fun (r : Int32) (_ : Unit) => r = r0) (fun (_ : Unit) t => wAt (dC, dI) A (wG (cM cy ad) ad 40 σ9) t) A) (#[.ref (ad 0), .int a1, .int a2, .int a3]) s 0 0 A) (F0 m 118 ls [.int s0, .int s1, .ref (ad 23)]) := by
    intro σ x1 x3 x4 s0 s1 H locs ls h hP hD hS hl
    unfold fX12_half_118 at h
    refine ux_iast hx hb hK hP hD hS 23 0 (Nat.le_of_ble_eq_true rfl) (fun _ => (cM_23 _ _ _ _)) rfl h dX12_half_118 (fun σ5 H locs h hP hD hS => ?_)
    refine lv_aload_n hx hb dX12_half_119 rfl (lv_at hl 0 rfl) ?_
    refine ux_get (D := (dC, dI)) (ci := 12) (v := .ref (ad 24)) (C := RX12) (T := TX12) (M := 59) (fs := (oM ad (σ5.1 0))) hx hb hts (fun _ h9 => List.mem_cons_of_mem _ (List.mem_append_right _ h9)) hown hK hP 0 (Nat.le_of_ble_eq_true rfl) rfl rfl 27 (by decide) (hts (.fieldLink RX12 80 "SeatsRoundModel" "piecesTo" "[I") (List.mem_of_getElem? (i := 3) rfl)) (fun _ h9 => h9) rfl dX12_half_120 ?_
    refine lv_iload hx hb dX12_half_123 (lv_at hl 3 rfl) ?_
    refine lv_iload_n hx hb dX12_half_125 rfl (lv_at hl 2 rfl) ?_
    refine ux_iast hx hb hK hP hD hS 24 0 (Nat.le_of_ble_eq_true rfl) (fun _ => (cM_24 _ _ _ _)) rfl h dX12_half_126 (fun σ6 H locs h hP hD hS => ?_)
    refine lv_aload_n hx hb dX12_half_127 rfl (lv_at hl 0 rfl) ?_
    refine ux_get (D := (dC, dI)) (ci := 12) (v := .ref (ad 23)) (C := RX12) (T := TX12) (M := 59) (fs := (oM ad (σ6.1 0))) hx hb hts (fun _ h9 => List.mem_cons_of_mem _ (List.mem_append_right _ h9)) hown hK hP 0 (Nat.le_of_ble_eq_true rfl) rfl rfl 26 (by decide) (hts (.fieldLink RX12 77 "SeatsRoundModel" "pieces" "[I") (List.mem_of_getElem? (i := 2) rfl)) (fun _ h9 => h9) rfl dX12_half_128 ?_
    refine lv_iload hx hb dX12_half_131 (lv_at hl 3 rfl) ?_
    refine ux_iald hx hb hK hP 23 0 (Nat.le_of_ble_eq_true rfl) (cM_23 _ _ _ _) rfl h dX12_half_133 (fun v7 h => ?_)
    refine lv_iconst (v := 3) hx hb dX12_half_134 (by decide) ?_
    refine lv_icmp_ge (tgt := 146) hx hb dX12_half_135 (by decide) (fun hcd => ?_) (fun hcd => ?_)
    · have h := cdP hcd h
      refine lv_bipush (v := 40) hx hb dX12_half_146 (by decide) ?_
      refine lv_iload_n hx hb dX12_half_148 rfl (lv_at hl 2 rfl) ?_
      refine lv_imul hx hb dX12_half_149 ?_
      refine lv_iload_n hx hb dX12_half_150 rfl (lv_at hl 1 rfl) ?_
      refine lv_iadd hx hb dX12_half_151 ?_
      refine lv_topi (fun v8 ev8 => ?_)
      have h := nmS h ev8
      refine lv_istore (lv' := [(5, .int v8), (0, .ref (ad 0)), (1, .int x1), (3, .int x3), (4, .int x4)]) hx hb dX12_half_152 hl (by decide) rfl (fun ls hl => ?_)
      have hl := lv_sub hl [1, 2, 3, 4, 0] (l' := [(0, .ref (ad 0)), (1, .int x1), (3, .int x3), (4, .int x4), (5, .int v8)]) rfl
      refine lv_aload_n hx hb dX12_half_154 rfl (lv_at hl 0 rfl) ?_
      refine ux_get (D := (dC, dI)) (ci := 12) (v := .ref (ad 20)) (C := RX12) (T := TX12) (M := 59) (fs := (oM ad (σ6.1 0))) hx hb hts (fun _ h9 => List.mem_cons_of_mem _ (List.mem_append_right _ h9)) hown hK hP 0 (Nat.le_of_ble_eq_true rfl) rfl rfl 23 (by decide) (hts (.fieldLink RX12 68 "SeatsRoundModel" "version" "[I") (List.mem_of_getElem? (i := 1) rfl)) (fun _ h9 => h9) rfl dX12_half_155 ?_
      refine lv_iload hx hb dX12_half_158 (lv_at hl 4 rfl) ?_
      refine lv_aload_n hx hb dX12_half_160 rfl (lv_at hl 0 rfl) ?_
      refine ux_get (D := (dC, dI)) (ci := 12) (v := .ref (ad 20)) (C := RX12) (T := TX12) (M := 59) (fs := (oM ad (σ6.1 0))) hx hb hts (fun _ h9 => List.mem_cons_of_mem _ (List.mem_append_right _ h9)) hown hK hP 0 (Nat.le_of_ble_eq_true rfl) rfl rfl 23 (by decide) (hts (.fieldLink RX12 68 "SeatsRoundModel" "version" "[I") (List.mem_of_getElem? (i := 1) rfl)) (fun _ h9 => h9) rfl dX12_half_161 ?_
      refine lv_iload hx hb dX12_half_164 (lv_at hl 3 rfl) ?_
      refine ux_iald hx hb hK hP 20 0 (Nat.le_of_ble_eq_true rfl) (cM_20 _ _ _ _) rfl h dX12_half_166 (fun v9 h => ?_)
      refine lv_aload_n hx hb dX12_half_167 rfl (lv_at hl 0 rfl) ?_
      refine ux_get (D := (dC, dI)) (ci := 12) (v := .ref (ad 20)) (C := RX12) (T := TX12) (M := 59) (fs := (oM ad (σ6.1 0))) hx hb hts (fun _ h9 => List.mem_cons_of_mem _ (List.mem_append_right _ h9)) hown hK hP 0 (Nat.le_of_ble_eq_true rfl) rfl rfl 23 (by decide) (hts (.fieldLink RX12 68 "SeatsRoundModel" "version" "[I") (List.mem_of_getElem? (i := 1) rfl)) (fun _ h9 => h9) rfl dX12_half_168 ?_
      refine lv_iload hx hb dX12_half_171 (lv_at hl 4 rfl) ?_
      refine ux_iald hx hb hK hP 20 0 (Nat.le_of_ble_eq_true rfl) (cM_20 _ _ _ _) rfl h dX12_half_173 (fun v10 h => ?_)
      refine lv_icmp_le (tgt := 187) hx hb dX12_half_174 (by decide) (fun hcd => ?_) (fun hcd => ?_)
      · have h := cdP hcd h
        refine lv_aload_n hx hb dX12_half_187 rfl (lv_at hl 0 rfl) ?_
        refine ux_get (D := (dC, dI)) (ci := 12) (v := .ref (ad 20)) (C := RX12) (T := TX12) (M := 59) (fs := (oM ad (σ6.1 0))) hx hb hts (fun _ h9 => List.mem_cons_of_mem _ (List.mem_append_right _ h9)) hown hK hP 0 (Nat.le_of_ble_eq_true rfl) rfl rfl 23 (by decide) (hts (.fieldLink RX12 68 "SeatsRoundModel" "version" "[I") (List.mem_of_getElem? (i := 1) rfl)) (fun _ h9 => h9) rfl dX12_half_188 ?_
        refine lv_iload hx hb dX12_half_191 (lv_at hl 4 rfl) ?_
        refine ux_iald hx hb hK hP 20 0 (Nat.le_of_ble_eq_true rfl) (cM_20 _ _ _ _) rfl h dX12_half_193 (fun v11 h => ?_)
        exact w194 σ6 x4 v11 v8 H locs ls h hP hD hS (lv_sub hl [0, 3] rfl)
      · have h := cdN hcd h
        refine lv_aload_n hx hb dX12_half_177 rfl (lv_at hl 0 rfl) ?_
        refine ux_get (D := (dC, dI)) (ci := 12) (v := .ref (ad 20)) (C := RX12) (T := TX12) (M := 59) (fs := (oM ad (σ6.1 0))) hx hb hts (fun _ h9 => List.mem_cons_of_mem _ (List.mem_append_right _ h9)) hown hK hP 0 (Nat.le_of_ble_eq_true rfl) rfl rfl 23 (by decide) (hts (.fieldLink RX12 68 "SeatsRoundModel" "version" "[I") (List.mem_of_getElem? (i := 1) rfl)) (fun _ h9 => h9) rfl dX12_half_178 ?_
        refine lv_iload hx hb dX12_half_181 (lv_at hl 3 rfl) ?_
        refine ux_iald hx hb hK hP 20 0 (Nat.le_of_ble_eq_true rfl) (cM_20 _ _ _ _) rfl h dX12_half_183 (fun v12 h => ?_)
        refine lv_goto (tgt := 194) hx hb dX12_half_184 (by decide) ?_
        exact w194 σ6 x4 v12 v8 H locs ls h hP hD hS (lv_sub hl [0, 3] rfl)
    · have h := cdN hcd h
      refine lv_aload_n hx hb dX12_half_138 rfl (lv_at hl 0 rfl) ?_
      refine ux_get (D := (dC, dI)) (ci := 12) (v := .ref (ad 23)) (C := RX12) (T := TX12) (M := 59) (fs := (oM ad (σ6.1 0))) hx hb hts (fun _ h9 => List.mem_cons_of_mem _ (List.mem_append_right _ h9)) hown hK hP 0 (Nat.le_of_ble_eq_true rfl) rfl rfl 26 (by decide) (hts (.fieldLink RX12 77 "SeatsRoundModel" "pieces" "[I") (List.mem_of_getElem? (i := 2) rfl)) (fun _ h9 => h9) rfl dX12_half_139 ?_
      refine lv_iload hx hb dX12_half_142 (lv_at hl 3 rfl) ?_
      refine ux_iald hx hb hK hP 23 0 (Nat.le_of_ble_eq_true rfl) (cM_23 _ _ _ _) rfl h dX12_half_144 (fun v13 h => ?_)
      exact ux_iret hx hb hr h hP hD hS hlocks dX12_half_145
  have w117 : ∀ (σ : S2) (x1 : Int32) (x3 : Int32) (x4 : Int32) (s0 : Int32) (H : Heap) (locs : List Loc) (ls : Array Slot), fX12_half_117 σ x1 x3 x4 s0 = some (r0, σ9) → va_P (dC, dI) vwCl (wG (cM cy ad) ad 40 σ) H → va_D A (wG (cM cy ad) ad 40 σ) → va_S A s.heap H locs → lv_has ls 6 [(0, .ref (ad 0)), (1, .int x1), (3, .int x3), (4, .int x4)] → W p l e (headSpec wsX12_half ({ frames := 3, cells := 0, slots := 0, locals := 66 })).room s m (#[.ref (ad 0), .int a1, .int a2, .int a3]) below meth c H locs 0 0 (MQ below (va_Qi (fun (r : Int32) (_ : Unit) => r = r0) (fun (_ : Unit) t => wAt (dC, dI) A (wG (cM cy ad) ad 40 σ9) t) A) (#[.ref (ad 0), .int a1, .int a2, .int a3]) s 0 0 A) (F0 m 117 ls [.int s0, .ref (ad 23)]) := by
    intro σ x1 x3 x4 s0 H locs ls h hP hD hS hl
    unfold fX12_half_117 at h
    refine lv_iconst (v := 1) hx hb dX12_half_117 (by decide) ?_
    exact w118 σ x1 x3 x4 1 s0 H locs ls h hP hD hS hl
  have w0 : ∀ (σ : S2) (x1 : Int32) (x2 : Int32) (x3 : Int32) (H : Heap) (locs : List Loc) (ls : Array Slot), fX12_half_0 σ x1 x2 x3 = some (r0, σ9) → va_P (dC, dI) vwCl (wG (cM cy ad) ad 40 σ) H → va_D A (wG (cM cy ad) ad 40 σ) → va_S A s.heap H locs → lv_has ls 6 [(0, .ref (ad 0)), (1, .int x1), (2, .int x2), (3, .int x3)] → W p l e (headSpec wsX12_half ({ frames := 3, cells := 0, slots := 0, locals := 66 })).room s m (#[.ref (ad 0), .int a1, .int a2, .int a3]) below meth c H locs 0 0 (MQ below (va_Qi (fun (r : Int32) (_ : Unit) => r = r0) (fun (_ : Unit) t => wAt (dC, dI) A (wG (cM cy ad) ad 40 σ9) t) A) (#[.ref (ad 0), .int a1, .int a2, .int a3]) s 0 0 A) (F0 m 0 ls []) := by
    intro σ x1 x2 x3 H locs ls h hP hD hS hl
    unfold fX12_half_0 at h
    refine lv_aload_n hx hb dX12_half_0 rfl (lv_at hl 0 rfl) ?_
    refine lv_iload_n hx hb dX12_half_1 rfl (lv_at hl 1 rfl) ?_
    obtain ⟨r14, hf15, h⟩ := biS h
    refine ux_calli (va_runV (As := [.int x1]) (rest := []) ⟨hx, hb, hml, hown, hts⟩ (tX12_isName l dC dI cy ad σ x1 H.size r14 hf15) (cwV 1 hts gX12_half_X12_isName rfl rfl rfl (by decide +kernel) ⟨Nat.le_of_ble_eq_true rfl, Nat.le_of_ble_eq_true rfl⟩) (wp_V hK hN hP hD (va_recv hK hP (ci := 12) (q0 := 0) rfl (wG_of (Nat.le_of_ble_eq_true rfl) rfl))) rfl rfl hl.1 rfl (lv_room (Nat.le_of_ble_eq_true rfl)) dX12_half_2 ⟨Nat.le_of_ble_eq_true rfl, Nat.le_of_ble_eq_true rfl⟩) hD hS hA (fun H locs hP hD hS => ?_)
    refine lv_if_eq (tgt := 29) hx hb dX12_half_5 (by decide) (fun hcd => ?_) (fun hcd => ?_)
    · have h := cdP hcd h
      refine lv_iconst (v := (-1)) hx hb dX12_half_29 (by decide) ?_
      exact ux_iret hx hb hr h hP hD hS hlocks dX12_half_30
    · have h := cdN hcd h
      refine lv_aload_n hx hb dX12_half_8 rfl (lv_at hl 0 rfl) ?_
      refine lv_iload_n hx hb dX12_half_9 rfl (lv_at hl 2 rfl) ?_
      obtain ⟨r16, hf17, h⟩ := biS h
      refine ux_calli (va_runV (As := [.int x2]) (rest := []) ⟨hx, hb, hml, hown, hts⟩ (tX12_isKeeper l dC dI cy ad σ x2 H.size r16 hf17) (cwV 1 hts gX12_half_X12_isKeeper rfl rfl rfl (by decide +kernel) ⟨Nat.le_of_ble_eq_true rfl, Nat.le_of_ble_eq_true rfl⟩) (wp_V hK hN hP hD (va_recv hK hP (ci := 12) (q0 := 0) rfl (wG_of (Nat.le_of_ble_eq_true rfl) rfl))) rfl rfl hl.1 rfl (lv_room (Nat.le_of_ble_eq_true rfl)) dX12_half_10 ⟨Nat.le_of_ble_eq_true rfl, Nat.le_of_ble_eq_true rfl⟩) hD hS hA (fun H locs hP hD hS => ?_)
      refine lv_if_eq (tgt := 29) hx hb dX12_half_13 (by decide) (fun hcd => ?_) (fun hcd => ?_)
      · have h := cdP hcd h
        refine lv_iconst (v := (-1)) hx hb dX12_half_29 (by decide) ?_
        exact ux_iret hx hb hr h hP hD hS hlocks dX12_half_30
      · have h := cdN hcd h
        refine lv_aload_n hx hb dX12_half_16 rfl (lv_at hl 0 rfl) ?_
        refine lv_iload_n hx hb dX12_half_17 rfl (lv_at hl 3 rfl) ?_
        obtain ⟨r18, hf19, h⟩ := biS h
        refine ux_calli (va_runV (As := [.int x3]) (rest := []) ⟨hx, hb, hml, hown, hts⟩ (tX12_isKeeper l dC dI cy ad σ x3 H.size r18 hf19) (cwV 1 hts gX12_half_X12_isKeeper rfl rfl rfl (by decide +kernel) ⟨Nat.le_of_ble_eq_true rfl, Nat.le_of_ble_eq_true rfl⟩) (wp_V hK hN hP hD (va_recv hK hP (ci := 12) (q0 := 0) rfl (wG_of (Nat.le_of_ble_eq_true rfl) rfl))) rfl rfl hl.1 rfl (lv_room (Nat.le_of_ble_eq_true rfl)) dX12_half_18 ⟨Nat.le_of_ble_eq_true rfl, Nat.le_of_ble_eq_true rfl⟩) hD hS hA (fun H locs hP hD hS => ?_)
        refine lv_if_eq (tgt := 29) hx hb dX12_half_21 (by decide) (fun hcd => ?_) (fun hcd => ?_)
        · have h := cdP hcd h
          refine lv_iconst (v := (-1)) hx hb dX12_half_29 (by decide) ?_
          exact ux_iret hx hb hr h hP hD hS hlocks dX12_half_30
        · have h := cdN hcd h
          refine lv_iload_n hx hb dX12_half_24 rfl (lv_at hl 2 rfl) ?_
          refine lv_iload_n hx hb dX12_half_25 rfl (lv_at hl 3 rfl) ?_
          refine lv_icmp_ne (tgt := 31) hx hb dX12_half_26 (by decide) (fun hcd => ?_) (fun hcd => ?_)
          · have h := cdN hcd h
            refine lv_bipush (v := 40) hx hb dX12_half_31 (by decide) ?_
            refine lv_iload_n hx hb dX12_half_33 rfl (lv_at hl 2 rfl) ?_
            refine lv_imul hx hb dX12_half_34 ?_
            refine lv_iload_n hx hb dX12_half_35 rfl (lv_at hl 1 rfl) ?_
            refine lv_iadd hx hb dX12_half_36 ?_
            refine lv_topi (fun v20 ev20 => ?_)
            have h := nmS h ev20
            refine lv_istore (lv' := [(4, .int v20), (0, .ref (ad 0)), (1, .int x1), (2, .int x2), (3, .int x3)]) hx hb dX12_half_37 hl (by decide) rfl (fun ls hl => ?_)
            have hl := lv_sub hl [1, 2, 3, 4, 0] (l' := [(0, .ref (ad 0)), (1, .int x1), (2, .int x2), (3, .int x3), (4, .int v20)]) rfl
            refine lv_aload_n hx hb dX12_half_39 rfl (lv_at hl 0 rfl) ?_
            refine ux_get (D := (dC, dI)) (ci := 12) (v := .ref (ad 20)) (C := RX12) (T := TX12) (M := 59) (fs := (oM ad (σ.1 0))) hx hb hts (fun _ h9 => List.mem_cons_of_mem _ (List.mem_append_right _ h9)) hown hK hP 0 (Nat.le_of_ble_eq_true rfl) rfl rfl 23 (by decide) (hts (.fieldLink RX12 68 "SeatsRoundModel" "version" "[I") (List.mem_of_getElem? (i := 1) rfl)) (fun _ h9 => h9) rfl dX12_half_40 ?_
            refine lv_iload hx hb dX12_half_43 (lv_at hl 4 rfl) ?_
            refine ux_iald hx hb hK hP 20 0 (Nat.le_of_ble_eq_true rfl) (cM_20 _ _ _ _) rfl h dX12_half_45 (fun v21 h => ?_)
            refine lv_if_ne (tgt := 52) hx hb dX12_half_46 (by decide) (fun hcd => ?_) (fun hcd => ?_)
            · have h := cdN hcd h
              refine lv_aload_n hx hb dX12_half_52 rfl (lv_at hl 0 rfl) ?_
              refine lv_iload_n hx hb dX12_half_53 rfl (lv_at hl 2 rfl) ?_
              obtain ⟨r22, hf23, h⟩ := biS h
              refine ux_calli (va_runV (As := [.int x2]) (rest := []) ⟨hx, hb, hml, hown, hts⟩ (tX12_isAwake l dC dI cy ad σ x2 H.size r22 hf23) (cwV 1 hts gX12_half_X12_isAwake rfl rfl rfl (by decide +kernel) ⟨Nat.le_of_ble_eq_true rfl, Nat.le_of_ble_eq_true rfl⟩) (wp_V hK hN hP hD (va_recv hK hP (ci := 12) (q0 := 0) rfl (wG_of (Nat.le_of_ble_eq_true rfl) rfl))) rfl rfl hl.1 rfl (lv_room (Nat.le_of_ble_eq_true rfl)) dX12_half_54 ⟨Nat.le_of_ble_eq_true rfl, Nat.le_of_ble_eq_true rfl⟩) hD hS hA (fun H locs hP hD hS => ?_)
              refine lv_if_eq (tgt := 68) hx hb dX12_half_57 (by decide) (fun hcd => ?_) (fun hcd => ?_)
              · have h := cdP hcd h
                exact w68 σ v20 H locs ls h hP hD hS (lv_sub hl [0, 4] rfl)
              · have h := cdN hcd h
                refine lv_aload_n hx hb dX12_half_60 rfl (lv_at hl 0 rfl) ?_
                refine lv_iload_n hx hb dX12_half_61 rfl (lv_at hl 3 rfl) ?_
                obtain ⟨r24, hf25, h⟩ := biS h
                refine ux_calli (va_runV (As := [.int x3]) (rest := []) ⟨hx, hb, hml, hown, hts⟩ (tX12_isAwake l dC dI cy ad σ x3 H.size r24 hf25) (cwV 1 hts gX12_half_X12_isAwake rfl rfl rfl (by decide +kernel) ⟨Nat.le_of_ble_eq_true rfl, Nat.le_of_ble_eq_true rfl⟩) (wp_V hK hN hP hD (va_recv hK hP (ci := 12) (q0 := 0) rfl (wG_of (Nat.le_of_ble_eq_true rfl) rfl))) rfl rfl hl.1 rfl (lv_room (Nat.le_of_ble_eq_true rfl)) dX12_half_62 ⟨Nat.le_of_ble_eq_true rfl, Nat.le_of_ble_eq_true rfl⟩) hD hS hA (fun H locs hP hD hS => ?_)
                refine lv_if_ne (tgt := 78) hx hb dX12_half_65 (by decide) (fun hcd => ?_) (fun hcd => ?_)
                · have h := cdN hcd h
                  refine lv_aload_n hx hb dX12_half_78 rfl (lv_at hl 0 rfl) ?_
                  refine ux_get (D := (dC, dI)) (ci := 12) (v := .ref (ad 23)) (C := RX12) (T := TX12) (M := 59) (fs := (oM ad (σ.1 0))) hx hb hts (fun _ h9 => List.mem_cons_of_mem _ (List.mem_append_right _ h9)) hown hK hP 0 (Nat.le_of_ble_eq_true rfl) rfl rfl 26 (by decide) (hts (.fieldLink RX12 77 "SeatsRoundModel" "pieces" "[I") (List.mem_of_getElem? (i := 2) rfl)) (fun _ h9 => h9) rfl dX12_half_79 ?_
                  refine lv_iload hx hb dX12_half_82 (lv_at hl 4 rfl) ?_
                  refine lv_aload_n hx hb dX12_half_84 rfl (lv_at hl 0 rfl) ?_
                  refine ux_get (D := (dC, dI)) (ci := 12) (v := .ref (ad 23)) (C := RX12) (T := TX12) (M := 59) (fs := (oM ad (σ.1 0))) hx hb hts (fun _ h9 => List.mem_cons_of_mem _ (List.mem_append_right _ h9)) hown hK hP 0 (Nat.le_of_ble_eq_true rfl) rfl rfl 26 (by decide) (hts (.fieldLink RX12 77 "SeatsRoundModel" "pieces" "[I") (List.mem_of_getElem? (i := 2) rfl)) (fun _ h9 => h9) rfl dX12_half_85 ?_
                  refine lv_iload hx hb dX12_half_88 (lv_at hl 4 rfl) ?_
                  refine ux_iald hx hb hK hP 23 0 (Nat.le_of_ble_eq_true rfl) (cM_23 _ _ _ _) rfl h dX12_half_90 (fun v26 h => ?_)
                  refine lv_if_le (tgt := 117) hx hb dX12_half_91 (by decide) (fun hcd => ?_) (fun hcd => ?_)
                  · have h := cdP hcd h
                    exact w117 σ x1 x3 v20 v20 H locs ls h hP hD hS (lv_sub hl [0, 1, 3, 4] rfl)
                  · have h := cdN hcd h
                    refine lv_aload_n hx hb dX12_half_94 rfl (lv_at hl 0 rfl) ?_
                    refine ux_get (D := (dC, dI)) (ci := 12) (v := .ref (ad 24)) (C := RX12) (T := TX12) (M := 59) (fs := (oM ad (σ.1 0))) hx hb hts (fun _ h9 => List.mem_cons_of_mem _ (List.mem_append_right _ h9)) hown hK hP 0 (Nat.le_of_ble_eq_true rfl) rfl rfl 27 (by decide) (hts (.fieldLink RX12 80 "SeatsRoundModel" "piecesTo" "[I") (List.mem_of_getElem? (i := 3) rfl)) (fun _ h9 => h9) rfl dX12_half_95 ?_
                    refine lv_iload hx hb dX12_half_98 (lv_at hl 4 rfl) ?_
                    refine ux_iald hx hb hK hP 24 0 (Nat.le_of_ble_eq_true rfl) (cM_24 _ _ _ _) rfl h dX12_half_100 (fun v27 h => ?_)
                    refine lv_iload_n hx hb dX12_half_101 rfl (lv_at hl 3 rfl) ?_
                    refine lv_icmp_ne (tgt := 117) hx hb dX12_half_102 (by decide) (fun hcd => ?_) (fun hcd => ?_)
                    · have h := cdN hcd h
                      exact w117 σ x1 x3 v20 v20 H locs ls h hP hD hS (lv_sub hl [0, 1, 3, 4] rfl)
                    · have h := cdP hcd h
                      refine lv_aload_n hx hb dX12_half_105 rfl (lv_at hl 0 rfl) ?_
                      refine ux_get (D := (dC, dI)) (ci := 12) (v := .ref (ad 23)) (C := RX12) (T := TX12) (M := 59) (fs := (oM ad (σ.1 0))) hx hb hts (fun _ h9 => List.mem_cons_of_mem _ (List.mem_append_right _ h9)) hown hK hP 0 (Nat.le_of_ble_eq_true rfl) rfl rfl 26 (by decide) (hts (.fieldLink RX12 77 "SeatsRoundModel" "pieces" "[I") (List.mem_of_getElem? (i := 2) rfl)) (fun _ h9 => h9) rfl dX12_half_106 ?_
                      refine lv_iload hx hb dX12_half_109 (lv_at hl 4 rfl) ?_
                      refine ux_iald hx hb hK hP 23 0 (Nat.le_of_ble_eq_true rfl) (cM_23 _ _ _ _) rfl h dX12_half_111 (fun v28 h => ?_)
                      refine lv_iconst (v := 1) hx hb dX12_half_112 (by decide) ?_
                      refine lv_iadd hx hb dX12_half_113 ?_
                      refine lv_goto (tgt := 118) hx hb dX12_half_114 (by decide) ?_
                      exact w118 σ x1 x3 v20 (v28 + 1) v20 H locs ls h hP hD hS (lv_sub hl [0, 1, 3, 4] rfl)
                · have h := cdP hcd h
                  exact w68 σ v20 H locs ls h hP hD hS (lv_sub hl [0, 4] rfl)
            · have h := cdP hcd h
              refine lv_bipush (v := (-2)) hx hb dX12_half_49 (by decide) ?_
              exact ux_iret hx hb hr h hP hD hS hlocks dX12_half_51
          · have h := cdP hcd h
            refine lv_iconst (v := (-1)) hx hb dX12_half_29 (by decide) ?_
            exact ux_iret hx hb hr h hP hD hS hlocks dX12_half_30
  intro H locs ls h hP hD hS hl
  exact w0 σ a1 a2 a3 H locs ls h hP hD hS (lv_sub hl [0, 1, 2, 3] rfl)

set_option maxHeartbeats 4000000 in
set_option maxRecDepth 100000 in
theorem tX12_mend (l : Launch) (dC : Nat → ClassId) (dI : Nat → Nat → Nat) (cy : Nat → ClassId) (ad : Nat → Nat) (σ : S2) (a1 : Int32) (sz : Nat) (r0 : Int32) (σ9 : S2) (h : fX12_mend σ a1 = some (r0, σ9)) : Met l yX12_mend wsX12_mend ({ frames := 6, cells := 0, slots := 0, locals := 144 }) (va_Pc [.ref (ad 0), .int a1] (wPre (dC, dI) cy (wG (cM cy ad) ad 40 σ) sz)) (va_Qi (fun (r : Int32) (_ : Unit) => r = r0) (fun (_ : Unit) t => wAt (dC, dI) (va_A (wG (cM cy ad) ad 40 σ) sz) (wG (cM cy ad) ad 40 σ9) t) (va_A (wG (cM cy ad) ad 40 σ) sz)) 0 0 (va_A (wG (cM cy ad) ad 40 σ) sz) := by
  refine Met.ofW (cc := cX12_mend) (maxL := 7) (ret := (some .int)) (by decide) rfl ?_
  intro p e s m args below meth c s₁ B hml hv
  obtain ⟨rfl, hsz, hP, hK, hD0, hN⟩ := hv
  have hx := B.exec
  have hb := B.bytes
  have hr := B.returns
  have hts := atoms_spec (ws := wsX12_mend) B.pre
  have hown : s.vm.findClass RX12 = some m.cls := findClass_of_methodNamed B.named
  have hlocks := B.notSynchronized
  subst hsz
  have hD := hD0.self (sz := s.heap.size)
  generalize hAe : va_A (wG (cM cy ad) ad 40 σ) s.heap.size = A at hD ⊢
  have hA : ∀ q : Nat, s.heap.size ≤ q → A q := fun q h => by rw [← hAe]; exact Or.inr h
  have hS : va_S A s.heap s.heap [] := va_S.rf
  have hl := lv_entry ([.ref (ad 0), .int a1]) (n := 7) (Nat.le_of_ble_eq_true rfl)
  rw [lg_entry_eq]
  generalize (lg_sl ([.ref (ad 0), .int a1]) ++ List.replicate (7 - (lg_sl ([.ref (ad 0), .int a1])).length) Slot.unset).toArray = ls at hl ⊢
  have hl : lv_has ls 7 [(0, .ref (ad 0)), (1, .int a1)] := hl
  unfold fX12_mend at h
  clear hAe hD0
  suffices HH : ∀ (H : Heap) (locs : List Loc) (ls : Array Slot), fX12_mend_0 σ a1 = some (r0, σ9) → va_P (dC, dI) vwCl (wG (cM cy ad) ad 40 σ) H → va_D A (wG (cM cy ad) ad 40 σ) → va_S A s.heap H locs → lv_has ls 7 [(0, .ref (ad 0)), (1, .int a1)] → W p l e (headSpec wsX12_mend ({ frames := 6, cells := 0, slots := 0, locals := 144 })).room s m (#[.ref (ad 0), .int a1]) below meth c H locs 0 0 (MQ below (va_Qi (fun (r : Int32) (_ : Unit) => r = r0) (fun (_ : Unit) t => wAt (dC, dI) A (wG (cM cy ad) ad 40 σ9) t) A) (#[.ref (ad 0), .int a1]) s 0 0 A) (F0 m 0 ls []) from HH s.heap [] ls h hP hD hS hl
  have w174 : ∀ (k98 : S2 → Int32 → Int32 → Int32 → Int32 → Int32 → Option (Int32 × S2)) (hk98 : ∀ (σ : S2) (x1 : Int32) (x2 : Int32) (x3 : Int32) (x4 : Int32) (x5 : Int32) (H : Heap) (locs : List Loc) (ls : Array Slot), k98 σ x1 x2 x3 x4 x5 = some (r0, σ9) → va_P (dC, dI) vwCl (wG (cM cy ad) ad 40 σ) H → va_D A (wG (cM cy ad) ad 40 σ) → va_S A s.heap H locs → lv_has ls 7 [(0, .ref (ad 0)), (1, .int x1), (2, .int x2), (3, .int x3), (4, .int x4), (5, .int x5)] → W p l e (headSpec wsX12_mend ({ frames := 6, cells := 0, slots := 0, locals := 144 })).room s m (#[.ref (ad 0), .int a1]) below meth c H locs 0 0 (MQ below (va_Qi (fun (r : Int32) (_ : Unit) => r = r0) (fun (_ : Unit) t => wAt (dC, dI) A (wG (cM cy ad) ad 40 σ9) t) A) (#[.ref (ad 0), .int a1]) s 0 0 A) (F0 m 98 ls [])) , ∀ (σ : S2) (x1 : Int32) (x2 : Int32) (x3 : Int32) (x4 : Int32) (x5 : Int32) (H : Heap) (locs : List Loc) (ls : Array Slot), fX12_mend_174 k98 σ x1 x2 x3 x4 x5 = some (r0, σ9) → va_P (dC, dI) vwCl (wG (cM cy ad) ad 40 σ) H → va_D A (wG (cM cy ad) ad 40 σ) → va_S A s.heap H locs → lv_has ls 7 [(0, .ref (ad 0)), (1, .int x1), (2, .int x2), (3, .int x3), (4, .int x4), (5, .int x5)] → W p l e (headSpec wsX12_mend ({ frames := 6, cells := 0, slots := 0, locals := 144 })).room s m (#[.ref (ad 0), .int a1]) below meth c H locs 0 0 (MQ below (va_Qi (fun (r : Int32) (_ : Unit) => r = r0) (fun (_ : Unit) t => wAt (dC, dI) A (wG (cM cy ad) ad 40 σ9) t) A) (#[.ref (ad 0), .int a1]) s 0 0 A) (F0 m 174 ls []) := by
    intro k98 hk98 σ x1 x2 x3 x4 x5 H locs ls h hP hD hS hl
    unfold fX12_mend_174 at h
    obtain ⟨v1, ev1⟩ : ∃ y : Int32, y = x5 + 1 := ⟨_, rfl⟩
    have h := nmS h ev1
    refine lv_iinc (v := v1) (lv' := [(5, .int v1), (0, .ref (ad 0)), (1, .int x1), (2, .int x2), (3, .int x3), (4, .int x4)]) hx hb dX12_mend_174 hl (k := 5) rfl (by rw [ev1]; rfl) (by decide) rfl (fun ls hl => ?_)
    have hl := lv_sub hl [1, 2, 3, 4, 5, 0] (l' := [(0, .ref (ad 0)), (1, .int x1), (2, .int x2), (3, .int x3), (4, .int x4), (5, .int v1)]) rfl
    refine lv_goto (tgt := 98) hx hb dX12_mend_177 (by decide) ?_
    exact hk98 σ x1 x2 x3 x4 v1 H locs ls h hP hD hS hl
  have w98 : ∀ (k14 : S2 → Int32 → Int32 → Int32 → Option (Int32 × S2)) (hk14 : ∀ (σ : S2) (x1 : Int32) (x2 : Int32) (x3 : Int32) (H : Heap) (locs : List Loc) (ls : Array Slot), k14 σ x1 x2 x3 = some (r0, σ9) → va_P (dC, dI) vwCl (wG (cM cy ad) ad 40 σ) H → va_D A (wG (cM cy ad) ad 40 σ) → va_S A s.heap H locs → lv_has ls 7 [(0, .ref (ad 0)), (1, .int x1), (2, .int x2), (3, .int x3)] → W p l e (headSpec wsX12_mend ({ frames := 6, cells := 0, slots := 0, locals := 144 })).room s m (#[.ref (ad 0), .int a1]) below meth c H locs 0 0 (MQ below (va_Qi (fun (r : Int32) (_ : Unit) => r = r0) (fun (_ : Unit) t => wAt (dC, dI) A (wG (cM cy ad) ad 40 σ9) t) A) (#[.ref (ad 0), .int a1]) s 0 0 A) (F0 m 14 ls [])) (n : Nat), ∀ (σ : S2) (x1 : Int32) (x2 : Int32) (x3 : Int32) (x4 : Int32) (x5 : Int32) (H : Heap) (locs : List Loc) (ls : Array Slot), fX12_mend_98 k14 n σ x1 x2 x3 x4 x5 = some (r0, σ9) → va_P (dC, dI) vwCl (wG (cM cy ad) ad 40 σ) H → va_D A (wG (cM cy ad) ad 40 σ) → va_S A s.heap H locs → lv_has ls 7 [(0, .ref (ad 0)), (1, .int x1), (2, .int x2), (3, .int x3), (4, .int x4), (5, .int x5)] → W p l e (headSpec wsX12_mend ({ frames := 6, cells := 0, slots := 0, locals := 144 })).room s m (#[.ref (ad 0), .int a1]) below meth c H locs 0 0 (MQ below (va_Qi (fun (r : Int32) (_ : Unit) => r = r0) (fun (_ : Unit) t => wAt (dC, dI) A (wG (cM cy ad) ad 40 σ9) t) A) (#[.ref (ad 0), .int a1]) s 0 0 A) (F0 m 98 ls []) := by
    intro k14 hk14 n
    induction n with
    | zero => intro σ x1 x2 x3 x4 x5 H locs ls h; cases h
    | succ n ih =>
    intro σ x1 x2 x3 x4 x5 H locs ls h hP hD hS hl
    unfold fX12_mend_98 at h
    refine lv_iload hx hb dX12_mend_98 (lv_at hl 5 rfl) ?_
    refine lv_aload_n hx hb dX12_mend_100 rfl (lv_at hl 0 rfl) ?_
    refine ux_get (D := (dC, dI)) (ci := 12) (v := .int (σ.1 0 55)) (C := RX12) (T := TX12) (M := 59) (fs := (oM ad (σ.1 0))) hx hb hts (fun _ h9 => List.mem_cons_of_mem _ (List.mem_append_right _ h9)) hown hK hP 0 (Nat.le_of_ble_eq_true rfl) rfl rfl 55 (by decide) (hts (.fieldLink RX12 250 "SeatsRoundModel" "chosenMany" "I") (List.mem_of_getElem? (i := 5) rfl)) (fun _ h9 => h9) rfl dX12_mend_101 ?_
    refine lv_icmp_ge (tgt := 180) hx hb dX12_mend_104 (by decide) (fun hcd => ?_) (fun hcd => ?_)
    · have h := cdP hcd h
      obtain ⟨v2, ev2⟩ : ∃ y : Int32, y = x3 + 1 := ⟨_, rfl⟩
      have h := nmS h ev2
      refine lv_iinc (v := v2) (lv' := [(3, .int v2), (0, .ref (ad 0)), (1, .int x1), (2, .int x2), (4, .int x4), (5, .int x5)]) hx hb dX12_mend_180 hl (k := 3) rfl (by rw [ev2]; rfl) (by decide) rfl (fun ls hl => ?_)
      have hl := lv_sub hl [1, 2, 3, 0, 4, 5] (l' := [(0, .ref (ad 0)), (1, .int x1), (2, .int x2), (3, .int v2), (4, .int x4), (5, .int x5)]) rfl
      refine lv_goto (tgt := 14) hx hb dX12_mend_183 (by decide) ?_
      exact hk14 σ x1 x2 v2 H locs ls h hP hD hS (lv_sub hl [0, 1, 2, 3] rfl)
    · have h := cdN hcd h
      refine lv_bipush (v := 40) hx hb dX12_mend_107 (by decide) ?_
      refine lv_aload_n hx hb dX12_mend_109 rfl (lv_at hl 0 rfl) ?_
      refine ux_get (D := (dC, dI)) (ci := 12) (v := .ref (ad 36)) (C := RX12) (T := TX12) (M := 59) (fs := (oM ad (σ.1 0))) hx hb hts (fun _ h9 => List.mem_cons_of_mem _ (List.mem_append_right _ h9)) hown hK hP 0 (Nat.le_of_ble_eq_true rfl) rfl rfl 54 (by decide) (hts (.fieldLink RX12 121 "SeatsRoundModel" "chosen" "[I") (List.mem_of_getElem? (i := 6) rfl)) (fun _ h9 => h9) rfl dX12_mend_110 ?_
      refine lv_iload hx hb dX12_mend_113 (lv_at hl 5 rfl) ?_
      refine ux_iald hx hb hK hP 36 0 (Nat.le_of_ble_eq_true rfl) (cM_36 _ _ _ _) rfl h dX12_mend_115 (fun v3 h => ?_)
      refine lv_imul hx hb dX12_mend_116 ?_
      refine lv_iload_n hx hb dX12_mend_117 rfl (lv_at hl 3 rfl) ?_
      refine lv_iadd hx hb dX12_mend_118 ?_
      refine lv_topi (fun v4 ev4 => ?_)
      have h := nmS h ev4
      refine lv_istore (lv' := [(6, .int v4), (0, .ref (ad 0)), (1, .int x1), (2, .int x2), (3, .int x3), (4, .int x4), (5, .int x5)]) hx hb dX12_mend_119 hl (by decide) rfl (fun ls hl => ?_)
      have hl := lv_sub hl [1, 2, 3, 4, 5, 6, 0] (l' := [(0, .ref (ad 0)), (1, .int x1), (2, .int x2), (3, .int x3), (4, .int x4), (5, .int x5), (6, .int v4)]) rfl
      refine lv_aload_n hx hb dX12_mend_121 rfl (lv_at hl 0 rfl) ?_
      refine lv_aload_n hx hb dX12_mend_122 rfl (lv_at hl 0 rfl) ?_
      refine ux_get (D := (dC, dI)) (ci := 12) (v := .ref (ad 36)) (C := RX12) (T := TX12) (M := 59) (fs := (oM ad (σ.1 0))) hx hb hts (fun _ h9 => List.mem_cons_of_mem _ (List.mem_append_right _ h9)) hown hK hP 0 (Nat.le_of_ble_eq_true rfl) rfl rfl 54 (by decide) (hts (.fieldLink RX12 121 "SeatsRoundModel" "chosen" "[I") (List.mem_of_getElem? (i := 6) rfl)) (fun _ h9 => h9) rfl dX12_mend_123 ?_
      refine lv_iload hx hb dX12_mend_126 (lv_at hl 5 rfl) ?_
      refine ux_iald hx hb hK hP 36 0 (Nat.le_of_ble_eq_true rfl) (cM_36 _ _ _ _) rfl h dX12_mend_128 (fun v5 h => ?_)
      obtain ⟨r6, hf7, h⟩ := biS h
      refine ux_calli (va_runV (As := [.int v5]) (rest := []) ⟨hx, hb, hml, hown, hts⟩ (tX12_isAwake l dC dI cy ad σ v5 H.size r6 hf7) (cwV 1 hts gX12_mend_X12_isAwake rfl rfl rfl (by decide +kernel) ⟨Nat.le_of_ble_eq_true rfl, Nat.le_of_ble_eq_true rfl⟩) (wp_V hK hN hP hD (va_recv hK hP (ci := 12) (q0 := 0) rfl (wG_of (Nat.le_of_ble_eq_true rfl) rfl))) rfl rfl hl.1 rfl (lv_room (Nat.le_of_ble_eq_true rfl)) dX12_mend_129 ⟨Nat.le_of_ble_eq_true rfl, Nat.le_of_ble_eq_true rfl⟩) hD hS hA (fun H locs hP hD hS => ?_)
      refine lv_if_eq (tgt := 174) hx hb dX12_mend_132 (by decide) (fun hcd => ?_) (fun hcd => ?_)
      · have h := cdP hcd h
        exact w174 _ ih σ x1 x2 x3 x4 x5 H locs ls h hP hD hS (lv_sub hl [0, 1, 2, 3, 4, 5] rfl)
      · have h := cdN hcd h
        refine lv_aload_n hx hb dX12_mend_135 rfl (lv_at hl 0 rfl) ?_
        refine ux_get (D := (dC, dI)) (ci := 12) (v := .ref (ad 20)) (C := RX12) (T := TX12) (M := 59) (fs := (oM ad (σ.1 0))) hx hb hts (fun _ h9 => List.mem_cons_of_mem _ (List.mem_append_right _ h9)) hown hK hP 0 (Nat.le_of_ble_eq_true rfl) rfl rfl 23 (by decide) (hts (.fieldLink RX12 68 "SeatsRoundModel" "version" "[I") (List.mem_of_getElem? (i := 4) rfl)) (fun _ h9 => h9) rfl dX12_mend_136 ?_
        refine lv_iload hx hb dX12_mend_139 (lv_at hl 6 rfl) ?_
        refine ux_iald hx hb hK hP 20 0 (Nat.le_of_ble_eq_true rfl) (cM_20 _ _ _ _) rfl h dX12_mend_141 (fun v8 h => ?_)
        refine lv_iload hx hb dX12_mend_142 (lv_at hl 4 rfl) ?_
        refine lv_icmp_ge (tgt := 174) hx hb dX12_mend_144 (by decide) (fun hcd => ?_) (fun hcd => ?_)
        · have h := cdP hcd h
          exact w174 _ ih σ x1 x2 x3 x4 x5 H locs ls h hP hD hS (lv_sub hl [0, 1, 2, 3, 4, 5] rfl)
        · have h := cdN hcd h
          refine lv_aload_n hx hb dX12_mend_147 rfl (lv_at hl 0 rfl) ?_
          refine lv_aload_n hx hb dX12_mend_148 rfl (lv_at hl 0 rfl) ?_
          refine ux_get (D := (dC, dI)) (ci := 12) (v := .ref (ad 36)) (C := RX12) (T := TX12) (M := 59) (fs := (oM ad (σ.1 0))) hx hb hts (fun _ h9 => List.mem_cons_of_mem _ (List.mem_append_right _ h9)) hown hK hP 0 (Nat.le_of_ble_eq_true rfl) rfl rfl 54 (by decide) (hts (.fieldLink RX12 121 "SeatsRoundModel" "chosen" "[I") (List.mem_of_getElem? (i := 6) rfl)) (fun _ h9 => h9) rfl dX12_mend_149 ?_
          refine lv_iload hx hb dX12_mend_152 (lv_at hl 5 rfl) ?_
          refine ux_iald hx hb hK hP 36 0 (Nat.le_of_ble_eq_true rfl) (cM_36 _ _ _ _) rfl h dX12_mend_154 (fun v9 h => ?_)
          refine lv_iload_n hx hb dX12_mend_155 rfl (lv_at hl 3 rfl) ?_
          obtain ⟨r10, hf11, h⟩ := biS h
          refine ux_calli (va_runV (As := [.int v9, .int x3]) (rest := []) ⟨hx, hb, hml, hown, hts⟩ (tX12_hasRoom l dC dI cy ad σ v9 x3 H.size r10 hf11) (cwV 2 hts gX12_mend_X12_hasRoom rfl rfl rfl (by decide +kernel) ⟨Nat.le_of_ble_eq_true rfl, Nat.le_of_ble_eq_true rfl⟩) (wp_V hK hN hP hD (va_recv hK hP (ci := 12) (q0 := 0) rfl (wG_of (Nat.le_of_ble_eq_true rfl) rfl))) rfl rfl hl.1 rfl (lv_room (Nat.le_of_ble_eq_true rfl)) dX12_mend_156 ⟨Nat.le_of_ble_eq_true rfl, Nat.le_of_ble_eq_true rfl⟩) hD hS hA (fun H locs hP hD hS => ?_)
          refine lv_if_eq (tgt := 174) hx hb dX12_mend_159 (by decide) (fun hcd => ?_) (fun hcd => ?_)
          · have h := cdP hcd h
            exact w174 _ ih σ x1 x2 x3 x4 x5 H locs ls h hP hD hS (lv_sub hl [0, 1, 2, 3, 4, 5] rfl)
          · have h := cdN hcd h
            refine lv_aload_n hx hb dX12_mend_162 rfl (lv_at hl 0 rfl) ?_
            refine ux_get (D := (dC, dI)) (ci := 12) (v := .ref (ad 20)) (C := RX12) (T := TX12) (M := 59) (fs := (oM ad (σ.1 0))) hx hb hts (fun _ h9 => List.mem_cons_of_mem _ (List.mem_append_right _ h9)) hown hK hP 0 (Nat.le_of_ble_eq_true rfl) rfl rfl 23 (by decide) (hts (.fieldLink RX12 68 "SeatsRoundModel" "version" "[I") (List.mem_of_getElem? (i := 4) rfl)) (fun _ h9 => h9) rfl dX12_mend_163 ?_
            refine lv_iload hx hb dX12_mend_166 (lv_at hl 6 rfl) ?_
            refine lv_iload hx hb dX12_mend_168 (lv_at hl 4 rfl) ?_
            refine ux_iast hx hb hK hP hD hS 20 0 (Nat.le_of_ble_eq_true rfl) (fun _ => (cM_20 _ _ _ _)) rfl h dX12_mend_170 (fun σ12 H locs h hP hD hS => ?_)
            obtain ⟨v13, ev13⟩ : ∃ y : Int32, y = x2 + 1 := ⟨_, rfl⟩
            have h := nmS h ev13
            refine lv_iinc (v := v13) (lv' := [(2, .int v13), (0, .ref (ad 0)), (1, .int x1), (3, .int x3), (4, .int x4), (5, .int x5), (6, .int v4)]) hx hb dX12_mend_171 hl (k := 2) rfl (by rw [ev13]; rfl) (by decide) rfl (fun ls hl => ?_)
            have hl := lv_sub hl [1, 2, 0, 3, 4, 5, 6] (l' := [(0, .ref (ad 0)), (1, .int x1), (2, .int v13), (3, .int x3), (4, .int x4), (5, .int x5), (6, .int v4)]) rfl
            exact w174 _ ih σ12 x1 v13 x3 x4 x5 H locs ls h hP hD hS (lv_sub hl [0, 1, 2, 3, 4, 5] rfl)
  have w81 : ∀ (k28 : S2 → Int32 → Int32 → Int32 → Int32 → Int32 → Option (Int32 × S2)) (hk28 : ∀ (σ : S2) (x1 : Int32) (x2 : Int32) (x3 : Int32) (x4 : Int32) (x5 : Int32) (H : Heap) (locs : List Loc) (ls : Array Slot), k28 σ x1 x2 x3 x4 x5 = some (r0, σ9) → va_P (dC, dI) vwCl (wG (cM cy ad) ad 40 σ) H → va_D A (wG (cM cy ad) ad 40 σ) → va_S A s.heap H locs → lv_has ls 7 [(0, .ref (ad 0)), (1, .int x1), (2, .int x2), (3, .int x3), (4, .int x4), (5, .int x5)] → W p l e (headSpec wsX12_mend ({ frames := 6, cells := 0, slots := 0, locals := 144 })).room s m (#[.ref (ad 0), .int a1]) below meth c H locs 0 0 (MQ below (va_Qi (fun (r : Int32) (_ : Unit) => r = r0) (fun (_ : Unit) t => wAt (dC, dI) A (wG (cM cy ad) ad 40 σ9) t) A) (#[.ref (ad 0), .int a1]) s 0 0 A) (F0 m 28 ls [])) , ∀ (σ : S2) (x1 : Int32) (x2 : Int32) (x3 : Int32) (x5 : Int32) (s0 : Int32) (H : Heap) (locs : List Loc) (ls : Array Slot), fX12_mend_81 k28 σ x1 x2 x3 x5 s0 = some (r0, σ9) → va_P (dC, dI) vwCl (wG (cM cy ad) ad 40 σ) H → va_D A (wG (cM cy ad) ad 40 σ) → va_S A s.heap H locs → lv_has ls 7 [(0, .ref (ad 0)), (1, .int x1), (2, .int x2), (3, .int x3), (5, .int x5)] → W p l e (headSpec wsX12_mend ({ frames := 6, cells := 0, slots := 0, locals := 144 })).room s m (#[.ref (ad 0), .int a1]) below meth c H locs 0 0 (MQ below (va_Qi (fun (r : Int32) (_ : Unit) => r = r0) (fun (_ : Unit) t => wAt (dC, dI) A (wG (cM cy ad) ad 40 σ9) t) A) (#[.ref (ad 0), .int a1]) s 0 0 A) (F0 m 81 ls [.int s0]) := by
    intro k28 hk28 σ x1 x2 x3 x5 s0 H locs ls h hP hD hS hl
    unfold fX12_mend_81 at h
    refine lv_istore (lv' := [(4, .int s0), (0, .ref (ad 0)), (1, .int x1), (2, .int x2), (3, .int x3), (5, .int x5)]) hx hb dX12_mend_81 hl (by decide) rfl (fun ls hl => ?_)
    have hl := lv_sub hl [1, 2, 3, 4, 0, 5] (l' := [(0, .ref (ad 0)), (1, .int x1), (2, .int x2), (3, .int x3), (4, .int s0), (5, .int x5)]) rfl
    obtain ⟨v14, ev14⟩ : ∃ y : Int32, y = x5 + 1 := ⟨_, rfl⟩
    have h := nmS h ev14
    refine lv_iinc (v := v14) (lv' := [(5, .int v14), (0, .ref (ad 0)), (1, .int x1), (2, .int x2), (3, .int x3), (4, .int s0)]) hx hb dX12_mend_83 hl (k := 5) rfl (by rw [ev14]; rfl) (by decide) rfl (fun ls hl => ?_)
    have hl := lv_sub hl [1, 2, 3, 4, 5, 0] (l' := [(0, .ref (ad 0)), (1, .int x1), (2, .int x2), (3, .int x3), (4, .int s0), (5, .int v14)]) rfl
    refine lv_goto (tgt := 28) hx hb dX12_mend_86 (by decide) ?_
    exact hk28 σ x1 x2 x3 s0 v14 H locs ls h hP hD hS hl
  have w79 : ∀ (k28 : S2 → Int32 → Int32 → Int32 → Int32 → Int32 → Option (Int32 × S2)) (hk28 : ∀ (σ : S2) (x1 : Int32) (x2 : Int32) (x3 : Int32) (x4 : Int32) (x5 : Int32) (H : Heap) (locs : List Loc) (ls : Array Slot), k28 σ x1 x2 x3 x4 x5 = some (r0, σ9) → va_P (dC, dI) vwCl (wG (cM cy ad) ad 40 σ) H → va_D A (wG (cM cy ad) ad 40 σ) → va_S A s.heap H locs → lv_has ls 7 [(0, .ref (ad 0)), (1, .int x1), (2, .int x2), (3, .int x3), (4, .int x4), (5, .int x5)] → W p l e (headSpec wsX12_mend ({ frames := 6, cells := 0, slots := 0, locals := 144 })).room s m (#[.ref (ad 0), .int a1]) below meth c H locs 0 0 (MQ below (va_Qi (fun (r : Int32) (_ : Unit) => r = r0) (fun (_ : Unit) t => wAt (dC, dI) A (wG (cM cy ad) ad 40 σ9) t) A) (#[.ref (ad 0), .int a1]) s 0 0 A) (F0 m 28 ls [])) , ∀ (σ : S2) (x1 : Int32) (x2 : Int32) (x3 : Int32) (x4 : Int32) (x5 : Int32) (H : Heap) (locs : List Loc) (ls : Array Slot), fX12_mend_79 k28 σ x1 x2 x3 x4 x5 = some (r0, σ9) → va_P (dC, dI) vwCl (wG (cM cy ad) ad 40 σ) H → va_D A (wG (cM cy ad) ad 40 σ) → va_S A s.heap H locs → lv_has ls 7 [(0, .ref (ad 0)), (1, .int x1), (2, .int x2), (3, .int x3), (4, .int x4), (5, .int x5)] → W p l e (headSpec wsX12_mend ({ frames := 6, cells := 0, slots := 0, locals := 144 })).room s m (#[.ref (ad 0), .int a1]) below meth c H locs 0 0 (MQ below (va_Qi (fun (r : Int32) (_ : Unit) => r = r0) (fun (_ : Unit) t => wAt (dC, dI) A (wG (cM cy ad) ad 40 σ9) t) A) (#[.ref (ad 0), .int a1]) s 0 0 A) (F0 m 79 ls []) := by
    intro k28 hk28 σ x1 x2 x3 x4 x5 H locs ls h hP hD hS hl
    unfold fX12_mend_79 at h
    refine lv_iload hx hb dX12_mend_79 (lv_at hl 4 rfl) ?_
    exact w81 _ hk28 σ x1 x2 x3 x5 x4 H locs ls h hP hD hS (lv_sub hl [0, 1, 2, 3, 5] rfl)
  have w28 : ∀ (k14 : S2 → Int32 → Int32 → Int32 → Option (Int32 × S2)) (hk14 : ∀ (σ : S2) (x1 : Int32) (x2 : Int32) (x3 : Int32) (H : Heap) (locs : List Loc) (ls : Array Slot), k14 σ x1 x2 x3 = some (r0, σ9) → va_P (dC, dI) vwCl (wG (cM cy ad) ad 40 σ) H → va_D A (wG (cM cy ad) ad 40 σ) → va_S A s.heap H locs → lv_has ls 7 [(0, .ref (ad 0)), (1, .int x1), (2, .int x2), (3, .int x3)] → W p l e (headSpec wsX12_mend ({ frames := 6, cells := 0, slots := 0, locals := 144 })).room s m (#[.ref (ad 0), .int a1]) below meth c H locs 0 0 (MQ below (va_Qi (fun (r : Int32) (_ : Unit) => r = r0) (fun (_ : Unit) t => wAt (dC, dI) A (wG (cM cy ad) ad 40 σ9) t) A) (#[.ref (ad 0), .int a1]) s 0 0 A) (F0 m 14 ls [])) (n : Nat), ∀ (σ : S2) (x1 : Int32) (x2 : Int32) (x3 : Int32) (x4 : Int32) (x5 : Int32) (H : Heap) (locs : List Loc) (ls : Array Slot), fX12_mend_28 k14 n σ x1 x2 x3 x4 x5 = some (r0, σ9) → va_P (dC, dI) vwCl (wG (cM cy ad) ad 40 σ) H → va_D A (wG (cM cy ad) ad 40 σ) → va_S A s.heap H locs → lv_has ls 7 [(0, .ref (ad 0)), (1, .int x1), (2, .int x2), (3, .int x3), (4, .int x4), (5, .int x5)] → W p l e (headSpec wsX12_mend ({ frames := 6, cells := 0, slots := 0, locals := 144 })).room s m (#[.ref (ad 0), .int a1]) below meth c H locs 0 0 (MQ below (va_Qi (fun (r : Int32) (_ : Unit) => r = r0) (fun (_ : Unit) t => wAt (dC, dI) A (wG (cM cy ad) ad 40 σ9) t) A) (#[.ref (ad 0), .int a1]) s 0 0 A) (F0 m 28 ls []) := by
    intro k14 hk14 n
    induction n with
    | zero => intro σ x1 x2 x3 x4 x5 H locs ls h; cases h
    | succ n ih =>
    intro σ x1 x2 x3 x4 x5 H locs ls h hP hD hS hl
    unfold fX12_mend_28 at h
    refine lv_iload hx hb dX12_mend_28 (lv_at hl 5 rfl) ?_
    refine lv_aload_n hx hb dX12_mend_30 rfl (lv_at hl 0 rfl) ?_
    refine ux_get (D := (dC, dI)) (ci := 12) (v := .int (σ.1 0 3)) (C := RX12) (T := TX12) (M := 59) (fs := (oM ad (σ.1 0))) hx hb hts (fun _ h9 => List.mem_cons_of_mem _ (List.mem_append_right _ h9)) hown hK hP 0 (Nat.le_of_ble_eq_true rfl) rfl rfl 3 (by decide) (hts (.fieldLink RX12 140 "SeatsRoundModel" "keepers" "I") (List.mem_of_getElem? (i := 2) rfl)) (fun _ h9 => h9) rfl dX12_mend_31 ?_
    refine lv_icmp_ge (tgt := 89) hx hb dX12_mend_34 (by decide) (fun hcd => ?_) (fun hcd => ?_)
    · have h := cdP hcd h
      refine lv_aload_n hx hb dX12_mend_89 rfl (lv_at hl 0 rfl) ?_
      refine lv_iload_n hx hb dX12_mend_90 rfl (lv_at hl 1 rfl) ?_
      refine lv_iload_n hx hb dX12_mend_91 rfl (lv_at hl 3 rfl) ?_
      obtain ⟨r15, σ16, hf17, h⟩ := bsS h
      refine ux_callv (va_runV (As := [.int x1, .int x3]) (rest := []) ⟨hx, hb, hml, hown, hts⟩ (tX12_chooseName l dC dI cy ad σ x1 x3 H.size r15 σ16 hf17) (cwV 2 hts gX12_mend_X12_chooseName rfl rfl rfl (by decide +kernel) ⟨Nat.le_of_ble_eq_true rfl, Nat.le_of_ble_eq_true rfl⟩) (wp_V hK hN hP hD (va_recv hK hP (ci := 12) (q0 := 0) rfl (wG_of (Nat.le_of_ble_eq_true rfl) rfl))) rfl rfl hl.1 rfl (lv_room (Nat.le_of_ble_eq_true rfl)) dX12_mend_92 ⟨Nat.le_of_ble_eq_true rfl, Nat.le_of_ble_eq_true rfl⟩) hD hS hA (fun H locs hP hD hS => ?_)
      refine lv_iconst (v := 0) hx hb dX12_mend_95 (by decide) ?_
      refine lv_istore (lv' := [(5, .int 0), (0, .ref (ad 0)), (1, .int x1), (2, .int x2), (3, .int x3), (4, .int x4)]) hx hb dX12_mend_96 hl (by decide) rfl (fun ls hl => ?_)
      have hl := lv_sub hl [1, 2, 3, 4, 5, 0] (l' := [(0, .ref (ad 0)), (1, .int x1), (2, .int x2), (3, .int x3), (4, .int x4), (5, .int 0)]) rfl
      exact w98 _ hk14 FU σ16 x1 x2 x3 x4 0 H locs ls h hP hD hS hl
    · have h := cdN hcd h
      refine lv_aload_n hx hb dX12_mend_37 rfl (lv_at hl 0 rfl) ?_
      refine ux_get (D := (dC, dI)) (ci := 12) (v := .ref (ad 7)) (C := RX12) (T := TX12) (M := 59) (fs := (oM ad (σ.1 0))) hx hb hts (fun _ h9 => List.mem_cons_of_mem _ (List.mem_append_right _ h9)) hown hK hP 0 (Nat.le_of_ble_eq_true rfl) rfl rfl 8 (by decide) (hts (.fieldLink RX12 28 "SeatsRoundModel" "isFallen" "[Z") (List.mem_of_getElem? (i := 3) rfl)) (fun _ h9 => h9) rfl dX12_mend_38 ?_
      refine lv_iload hx hb dX12_mend_41 (lv_at hl 5 rfl) ?_
      refine ux_zald hx hb hK hP 7 2 (Nat.le_of_ble_eq_true rfl) (cM_7 _ _ _ _) rfl h dX12_mend_43 (fun v18 h => ?_)
      refine lv_if_ne (tgt := 79) hx hb dX12_mend_44 (by decide) (fun hcd => ?_) (fun hcd => ?_)
      · have h := cdN hcd h
        exact w79 _ ih σ x1 x2 x3 x4 x5 H locs ls h hP hD hS hl
      · have h := cdP hcd h
        refine lv_aload_n hx hb dX12_mend_47 rfl (lv_at hl 0 rfl) ?_
        refine ux_get (D := (dC, dI)) (ci := 12) (v := .ref (ad 20)) (C := RX12) (T := TX12) (M := 59) (fs := (oM ad (σ.1 0))) hx hb hts (fun _ h9 => List.mem_cons_of_mem _ (List.mem_append_right _ h9)) hown hK hP 0 (Nat.le_of_ble_eq_true rfl) rfl rfl 23 (by decide) (hts (.fieldLink RX12 68 "SeatsRoundModel" "version" "[I") (List.mem_of_getElem? (i := 4) rfl)) (fun _ h9 => h9) rfl dX12_mend_48 ?_
        refine lv_bipush (v := 40) hx hb dX12_mend_51 (by decide) ?_
        refine lv_iload hx hb dX12_mend_53 (lv_at hl 5 rfl) ?_
        refine lv_imul hx hb dX12_mend_55 ?_
        refine lv_iload_n hx hb dX12_mend_56 rfl (lv_at hl 3 rfl) ?_
        refine lv_iadd hx hb dX12_mend_57 ?_
        refine ux_iald hx hb hK hP 20 0 (Nat.le_of_ble_eq_true rfl) (cM_20 _ _ _ _) rfl h dX12_mend_58 (fun v19 h => ?_)
        change W _ _ _ _ _ _ _ _ _ _ _ _ _ _ _ (F0 m 59 ls [.int v19])
        refine lv_iload hx hb dX12_mend_59 (lv_at hl 4 rfl) ?_
        refine lv_icmp_le (tgt := 79) hx hb dX12_mend_61 (by decide) (fun hcd => ?_) (fun hcd => ?_)
        · have h := cdP hcd h
          exact w79 _ ih σ x1 x2 x3 x4 x5 H locs ls h hP hD hS hl
        · have h := cdN hcd h
          refine lv_aload_n hx hb dX12_mend_64 rfl (lv_at hl 0 rfl) ?_
          refine ux_get (D := (dC, dI)) (ci := 12) (v := .ref (ad 20)) (C := RX12) (T := TX12) (M := 59) (fs := (oM ad (σ.1 0))) hx hb hts (fun _ h9 => List.mem_cons_of_mem _ (List.mem_append_right _ h9)) hown hK hP 0 (Nat.le_of_ble_eq_true rfl) rfl rfl 23 (by decide) (hts (.fieldLink RX12 68 "SeatsRoundModel" "version" "[I") (List.mem_of_getElem? (i := 4) rfl)) (fun _ h9 => h9) rfl dX12_mend_65 ?_
          refine lv_bipush (v := 40) hx hb dX12_mend_68 (by decide) ?_
          refine lv_iload hx hb dX12_mend_70 (lv_at hl 5 rfl) ?_
          refine lv_imul hx hb dX12_mend_72 ?_
          refine lv_iload_n hx hb dX12_mend_73 rfl (lv_at hl 3 rfl) ?_
          refine lv_iadd hx hb dX12_mend_74 ?_
          refine ux_iald hx hb hK hP 20 0 (Nat.le_of_ble_eq_true rfl) (cM_20 _ _ _ _) rfl h dX12_mend_75 (fun v20 h => ?_)
          change W _ _ _ _ _ _ _ _ _ _ _ _ _ _ _ (F0 m 76 ls [.int v20])
          refine lv_goto (tgt := 81) hx hb dX12_mend_76 (by decide) ?_
          exact w81 _ ih σ x1 x2 x3 x5 v20 H locs ls h hP hD hS (lv_sub hl [0, 1, 2, 3, 5] rfl)
  have w14 : ∀ (n : Nat), ∀ (σ : S2) (x1 : Int32) (x2 : Int32) (x3 : Int32) (H : Heap) (locs : List Loc) (ls : Array Slot), fX12_mend_14 n σ x1 x2 x3 = some (r0, σ9) → va_P (dC, dI) vwCl (wG (cM cy ad) ad 40 σ) H → va_D A (wG (cM cy ad) ad 40 σ) → va_S A s.heap H locs → lv_has ls 7 [(0, .ref (ad 0)), (1, .int x1), (2, .int x2), (3, .int x3)] → W p l e (headSpec wsX12_mend ({ frames := 6, cells := 0, slots := 0, locals := 144 })).room s m (#[.ref (ad 0), .int a1]) below meth c H locs 0 0 (MQ below (va_Qi (fun (r : Int32) (_ : Unit) => r = r0) (fun (_ : Unit) t => wAt (dC, dI) A (wG (cM cy ad) ad 40 σ9) t) A) (#[.ref (ad 0), .int a1]) s 0 0 A) (F0 m 14 ls []) := by
    intro n
    induction n with
    | zero => intro σ x1 x2 x3 H locs ls h; cases h
    | succ n ih =>
    intro σ x1 x2 x3 H locs ls h hP hD hS hl
    unfold fX12_mend_14 at h
    refine lv_iload_n hx hb dX12_mend_14 rfl (lv_at hl 3 rfl) ?_
    refine lv_aload_n hx hb dX12_mend_15 rfl (lv_at hl 0 rfl) ?_
    refine ux_get (D := (dC, dI)) (ci := 12) (v := .int (σ.1 0 0)) (C := RX12) (T := TX12) (M := 59) (fs := (oM ad (σ.1 0))) hx hb hts (fun _ h9 => List.mem_cons_of_mem _ (List.mem_append_right _ h9)) hown hK hP 0 (Nat.le_of_ble_eq_true rfl) rfl rfl 0 (by decide) (hts (.fieldLink RX12 133 "SeatsRoundModel" "names" "I") (List.mem_of_getElem? (i := 1) rfl)) (fun _ h9 => h9) rfl dX12_mend_16 ?_
    refine lv_icmp_ge (tgt := 186) hx hb dX12_mend_19 (by decide) (fun hcd => ?_) (fun hcd => ?_)
    · have h := cdP hcd h
      refine lv_iload_n hx hb dX12_mend_186 rfl (lv_at hl 2 rfl) ?_
      exact ux_iret hx hb hr h hP hD hS hlocks dX12_mend_187
    · have h := cdN hcd h
      refine lv_iconst (v := 0) hx hb dX12_mend_22 (by decide) ?_
      refine lv_istore (lv' := [(4, .int 0), (0, .ref (ad 0)), (1, .int x1), (2, .int x2), (3, .int x3)]) hx hb dX12_mend_23 hl (by decide) rfl (fun ls hl => ?_)
      have hl := lv_sub hl [1, 2, 3, 4, 0] (l' := [(0, .ref (ad 0)), (1, .int x1), (2, .int x2), (3, .int x3), (4, .int 0)]) rfl
      refine lv_iconst (v := 0) hx hb dX12_mend_25 (by decide) ?_
      refine lv_istore (lv' := [(5, .int 0), (0, .ref (ad 0)), (1, .int x1), (2, .int x2), (3, .int x3), (4, .int 0)]) hx hb dX12_mend_26 hl (by decide) rfl (fun ls hl => ?_)
      have hl := lv_sub hl [1, 2, 3, 4, 5, 0] (l' := [(0, .ref (ad 0)), (1, .int x1), (2, .int x2), (3, .int x3), (4, .int 0), (5, .int 0)]) rfl
      exact w28 _ ih FU σ x1 x2 x3 0 0 H locs ls h hP hD hS hl
  have w0 : ∀ (σ : S2) (x1 : Int32) (H : Heap) (locs : List Loc) (ls : Array Slot), fX12_mend_0 σ x1 = some (r0, σ9) → va_P (dC, dI) vwCl (wG (cM cy ad) ad 40 σ) H → va_D A (wG (cM cy ad) ad 40 σ) → va_S A s.heap H locs → lv_has ls 7 [(0, .ref (ad 0)), (1, .int x1)] → W p l e (headSpec wsX12_mend ({ frames := 6, cells := 0, slots := 0, locals := 144 })).room s m (#[.ref (ad 0), .int a1]) below meth c H locs 0 0 (MQ below (va_Qi (fun (r : Int32) (_ : Unit) => r = r0) (fun (_ : Unit) t => wAt (dC, dI) A (wG (cM cy ad) ad 40 σ9) t) A) (#[.ref (ad 0), .int a1]) s 0 0 A) (F0 m 0 ls []) := by
    intro σ x1 H locs ls h hP hD hS hl
    unfold fX12_mend_0 at h
    refine lv_aload_n hx hb dX12_mend_0 rfl (lv_at hl 0 rfl) ?_
    refine lv_iload_n hx hb dX12_mend_1 rfl (lv_at hl 1 rfl) ?_
    obtain ⟨r21, hf22, h⟩ := biS h
    refine ux_calli (va_runV (As := [.int x1]) (rest := []) ⟨hx, hb, hml, hown, hts⟩ (tX12_isTable l dC dI cy ad σ x1 H.size r21 hf22) (cwV 1 hts gX12_mend_X12_isTable rfl rfl rfl (by decide +kernel) ⟨Nat.le_of_ble_eq_true rfl, Nat.le_of_ble_eq_true rfl⟩) (wp_V hK hN hP hD (va_recv hK hP (ci := 12) (q0 := 0) rfl (wG_of (Nat.le_of_ble_eq_true rfl) rfl))) rfl rfl hl.1 rfl (lv_room (Nat.le_of_ble_eq_true rfl)) dX12_mend_2 ⟨Nat.le_of_ble_eq_true rfl, Nat.le_of_ble_eq_true rfl⟩) hD hS hA (fun H locs hP hD hS => ?_)
    refine lv_if_ne (tgt := 10) hx hb dX12_mend_5 (by decide) (fun hcd => ?_) (fun hcd => ?_)
    · have h := cdN hcd h
      refine lv_iconst (v := 0) hx hb dX12_mend_10 (by decide) ?_
      refine lv_istore_n (lv' := [(2, .int 0), (0, .ref (ad 0)), (1, .int x1)]) hx hb dX12_mend_11 rfl hl (by decide) rfl (fun ls hl => ?_)
      have hl := lv_sub hl [1, 2, 0] (l' := [(0, .ref (ad 0)), (1, .int x1), (2, .int 0)]) rfl
      refine lv_iconst (v := 0) hx hb dX12_mend_12 (by decide) ?_
      refine lv_istore_n (lv' := [(3, .int 0), (0, .ref (ad 0)), (1, .int x1), (2, .int 0)]) hx hb dX12_mend_13 rfl hl (by decide) rfl (fun ls hl => ?_)
      have hl := lv_sub hl [1, 2, 3, 0] (l' := [(0, .ref (ad 0)), (1, .int x1), (2, .int 0), (3, .int 0)]) rfl
      exact w14 FU σ x1 0 0 H locs ls h hP hD hS hl
    · have h := cdP hcd h
      refine lv_iconst (v := (-1)) hx hb dX12_mend_8 (by decide) ?_
      exact ux_iret hx hb hr h hP hD hS hlocks dX12_mend_9
  intro H locs ls h hP hD hS hl
  exact w0 σ a1 H locs ls h hP hD hS (lv_sub hl [0, 1] rfl)

set_option maxHeartbeats 4000000 in
set_option maxRecDepth 100000 in
theorem tX12_leafOf (l : Launch) (dC : Nat → ClassId) (dI : Nat → Nat → Nat) (cy : Nat → ClassId) (ad : Nat → Nat) (σ : S2) (a1 : Int32) (a2 : Int32) (sz : Nat) (r0 : Int32) (h : fX12_leafOf σ a1 a2 = some r0) : Met l yX12_leafOf wsX12_leafOf ({ frames := 1, cells := 0, slots := 0, locals := 23 }) (va_Pc [.ref (ad 0), .int a1, .int a2] (wPre (dC, dI) cy (wG (cM cy ad) ad 40 σ) sz)) (va_Qi (fun (r : Int32) (_ : Unit) => r = r0) (fun (_ : Unit) t => wAt (dC, dI) (va_A (wG (cM cy ad) ad 40 σ) sz) (wG (cM cy ad) ad 40 σ) t) (va_A (wG (cM cy ad) ad 40 σ) sz)) 0 0 (va_A (wG (cM cy ad) ad 40 σ) sz) := by
  refine Met.ofW (cc := cX12_leafOf) (maxL := 5) (ret := (some .int)) (by decide) rfl ?_
  intro p e s m args below meth c s₁ B hml hv
  obtain ⟨rfl, hsz, hP, hK, hD0, hN⟩ := hv
  have hx := B.exec
  have hb := B.bytes
  have hr := B.returns
  have hts := atoms_spec (ws := wsX12_leafOf) B.pre
  have hown : s.vm.findClass RX12 = some m.cls := findClass_of_methodNamed B.named
  have hlocks := B.notSynchronized
  subst hsz
  have hD := hD0.self (sz := s.heap.size)
  generalize hAe : va_A (wG (cM cy ad) ad 40 σ) s.heap.size = A at hD ⊢
  have hA : ∀ q : Nat, s.heap.size ≤ q → A q := fun q h => by rw [← hAe]; exact Or.inr h
  have hS : va_S A s.heap s.heap [] := va_S.rf
  have hl := lv_entry ([.ref (ad 0), .int a1, .int a2]) (n := 5) (Nat.le_of_ble_eq_true rfl)
  rw [lg_entry_eq]
  generalize (lg_sl ([.ref (ad 0), .int a1, .int a2]) ++ List.replicate (5 - (lg_sl ([.ref (ad 0), .int a1, .int a2])).length) Slot.unset).toArray = ls at hl ⊢
  have hl : lv_has ls 5 [(0, .ref (ad 0)), (1, .int a1), (2, .int a2)] := hl
  unfold fX12_leafOf at h
  clear hAe hD0
  suffices HH : ∀ (H : Heap) (locs : List Loc) (ls : Array Slot), fX12_leafOf_0 σ a1 a2 = some r0 → va_P (dC, dI) vwCl (wG (cM cy ad) ad 40 σ) H → va_D A (wG (cM cy ad) ad 40 σ) → va_S A s.heap H locs → lv_has ls 5 [(0, .ref (ad 0)), (1, .int a1), (2, .int a2)] → W p l e (headSpec wsX12_leafOf ({ frames := 1, cells := 0, slots := 0, locals := 23 })).room s m (#[.ref (ad 0), .int a1, .int a2]) below meth c H locs 0 0 (MQ below (va_Qi (fun (r : Int32) (_ : Unit) => r = r0) (fun (_ : Unit) t => wAt (dC, dI) A (wG (cM cy ad) ad 40 σ) t) A) (#[.ref (ad 0), .int a1, .int a2]) s 0 0 A) (F0 m 0 ls []) from HH s.heap [] ls h hP hD hS hl
  have w5 : ∀ (n : Nat), ∀ (σ : S2) (x1 : Int32) (x3 : Int32) (x4 : Int32) (H : Heap) (locs : List Loc) (ls : Array Slot), fX12_leafOf_5 n σ x1 x3 x4 = some r0 → va_P (dC, dI) vwCl (wG (cM cy ad) ad 40 σ) H → va_D A (wG (cM cy ad) ad 40 σ) → va_S A s.heap H locs → lv_has ls 5 [(0, .ref (ad 0)), (1, .int x1), (3, .int x3), (4, .int x4)] → W p l e (headSpec wsX12_leafOf ({ frames := 1, cells := 0, slots := 0, locals := 23 })).room s m (#[.ref (ad 0), .int a1, .int a2]) below meth c H locs 0 0 (MQ below (va_Qi (fun (r : Int32) (_ : Unit) => r = r0) (fun (_ : Unit) t => wAt (dC, dI) A (wG (cM cy ad) ad 40 σ) t) A) (#[.ref (ad 0), .int a1, .int a2]) s 0 0 A) (F0 m 5 ls []) := by
    intro n
    induction n with
    | zero => intro σ x1 x3 x4 H locs ls h; cases h
    | succ n ih =>
    intro σ x1 x3 x4 H locs ls h hP hD hS hl
    unfold fX12_leafOf_5 at h
    refine lv_iload hx hb dX12_leafOf_5 (lv_at hl 3 rfl) ?_
    refine lv_aload_n hx hb dX12_leafOf_7 rfl (lv_at hl 0 rfl) ?_
    refine ux_get (D := (dC, dI)) (ci := 12) (v := .int (σ.1 0 0)) (C := RX12) (T := TX12) (M := 59) (fs := (oM ad (σ.1 0))) hx hb hts (fun _ h9 => List.mem_cons_of_mem _ (List.mem_append_right _ h9)) hown hK hP 0 (Nat.le_of_ble_eq_true rfl) rfl rfl 0 (by decide) (hts (.fieldLink RX12 133 "SeatsRoundModel" "names" "I") (List.mem_of_getElem? (i := 1) rfl)) (fun _ h9 => h9) rfl dX12_leafOf_8 ?_
    refine lv_icmp_ge (tgt := 40) hx hb dX12_leafOf_11 (by decide) (fun hcd => ?_) (fun hcd => ?_)
    · have h := cdP hcd h
      refine lv_iload_n hx hb dX12_leafOf_40 rfl (lv_at hl 2 rfl) ?_
      exact ux_iretP hx hb hr h hP hD hS hlocks dX12_leafOf_41
    · have h := cdN hcd h
      refine lv_iload_n hx hb dX12_leafOf_14 rfl (lv_at hl 2 rfl) ?_
      refine lv_iload hx hb dX12_leafOf_15 (lv_at hl 3 rfl) ?_
      refine lv_iconst (v := 1) hx hb dX12_leafOf_17 (by decide) ?_
      refine lv_iadd hx hb dX12_leafOf_18 ?_
      refine lv_aload_n hx hb dX12_leafOf_19 rfl (lv_at hl 0 rfl) ?_
      refine ux_get (D := (dC, dI)) (ci := 12) (v := .ref (ad 20)) (C := RX12) (T := TX12) (M := 59) (fs := (oM ad (σ.1 0))) hx hb hts (fun _ h9 => List.mem_cons_of_mem _ (List.mem_append_right _ h9)) hown hK hP 0 (Nat.le_of_ble_eq_true rfl) rfl rfl 23 (by decide) (hts (.fieldLink RX12 68 "SeatsRoundModel" "version" "[I") (List.mem_of_getElem? (i := 2) rfl)) (fun _ h9 => h9) rfl dX12_leafOf_20 ?_
      refine lv_bipush (v := 40) hx hb dX12_leafOf_23 (by decide) ?_
      refine lv_iload_n hx hb dX12_leafOf_25 rfl (lv_at hl 1 rfl) ?_
      change W _ _ _ _ _ _ _ _ _ _ _ _ _ _ _ (F0 m 26 ls [.int x1, .int 40, .ref (ad 20), .int (x4 + 1), .int x3])
      refine lv_imul hx hb dX12_leafOf_26 ?_
      refine lv_iload hx hb dX12_leafOf_27 (lv_at hl 3 rfl) ?_
      refine lv_iadd hx hb dX12_leafOf_29 ?_
      refine ux_iald hx hb hK hP 20 0 (Nat.le_of_ble_eq_true rfl) (cM_20 _ _ _ _) rfl h dX12_leafOf_30 (fun v1 h => ?_)
      refine lv_imul hx hb dX12_leafOf_31 ?_
      refine lv_iadd hx hb dX12_leafOf_32 ?_
      refine lv_topi (fun v2 ev2 => ?_)
      have h := nmS h ev2
      refine lv_istore_n (lv' := [(3, .int v2), (0, .ref (ad 0)), (1, .int x1), (4, .int x4)]) hx hb dX12_leafOf_33 rfl hl (by decide) rfl (fun ls hl => ?_)
      have hl := lv_sub hl [1, 2, 0, 3] (l' := [(0, .ref (ad 0)), (1, .int x1), (3, .int v2), (4, .int x4)]) rfl
      obtain ⟨v3, ev3⟩ : ∃ y : Int32, y = x4 + 8 := ⟨_, rfl⟩
      have h := nmS h ev3
      refine lv_iinc (v := v3) (lv' := [(4, .int v3), (0, .ref (ad 0)), (1, .int x1), (3, .int v2)]) hx hb dX12_leafOf_34 hl (k := 3) rfl (by rw [ev3]; rfl) (by decide) rfl (fun ls hl => ?_)
      have hl := lv_sub hl [1, 2, 3, 0] (l' := [(0, .ref (ad 0)), (1, .int x1), (3, .int v2), (4, .int v3)]) rfl
      refine lv_goto (tgt := 5) hx hb dX12_leafOf_37 (by decide) ?_
      exact ih σ x1 v2 v3 H locs ls h hP hD hS hl
  have w0 : ∀ (σ : S2) (x1 : Int32) (x2 : Int32) (H : Heap) (locs : List Loc) (ls : Array Slot), fX12_leafOf_0 σ x1 x2 = some r0 → va_P (dC, dI) vwCl (wG (cM cy ad) ad 40 σ) H → va_D A (wG (cM cy ad) ad 40 σ) → va_S A s.heap H locs → lv_has ls 5 [(0, .ref (ad 0)), (1, .int x1), (2, .int x2)] → W p l e (headSpec wsX12_leafOf ({ frames := 1, cells := 0, slots := 0, locals := 23 })).room s m (#[.ref (ad 0), .int a1, .int a2]) below meth c H locs 0 0 (MQ below (va_Qi (fun (r : Int32) (_ : Unit) => r = r0) (fun (_ : Unit) t => wAt (dC, dI) A (wG (cM cy ad) ad 40 σ) t) A) (#[.ref (ad 0), .int a1, .int a2]) s 0 0 A) (F0 m 0 ls []) := by
    intro σ x1 x2 H locs ls h hP hD hS hl
    unfold fX12_leafOf_0 at h
    refine lv_iconst (v := 0) hx hb dX12_leafOf_0 (by decide) ?_
    refine lv_istore_n (lv' := [(3, .int 0), (0, .ref (ad 0)), (1, .int x1), (2, .int x2)]) hx hb dX12_leafOf_1 rfl hl (by decide) rfl (fun ls hl => ?_)
    have hl := lv_sub hl [1, 2, 3, 0] (l' := [(0, .ref (ad 0)), (1, .int x1), (2, .int x2), (3, .int 0)]) rfl
    refine lv_iload_n hx hb dX12_leafOf_2 rfl (lv_at hl 2 rfl) ?_
    refine lv_istore (lv' := [(4, .int x2), (0, .ref (ad 0)), (1, .int x1), (2, .int x2), (3, .int 0)]) hx hb dX12_leafOf_3 hl (by decide) rfl (fun ls hl => ?_)
    have hl := lv_sub hl [1, 2, 3, 4, 0] (l' := [(0, .ref (ad 0)), (1, .int x1), (2, .int x2), (3, .int 0), (4, .int x2)]) rfl
    exact w5 FU σ x1 0 x2 H locs ls h hP hD hS (lv_sub hl [0, 1, 3, 4] rfl)
  intro H locs ls h hP hD hS hl
  exact w0 σ a1 a2 H locs ls h hP hD hS (lv_sub hl [0, 1, 2] rfl)

set_option maxHeartbeats 4000000 in
set_option maxRecDepth 100000 in
theorem tX12_areUnlike (l : Launch) (dC : Nat → ClassId) (dI : Nat → Nat → Nat) (cy : Nat → ClassId) (ad : Nat → Nat) (σ : S2) (a1 : Int32) (a2 : Int32) (a3 : Int32) (a4 : Int32) (sz : Nat) (r0 : Int32) (h : fX12_areUnlike σ a1 a2 a3 a4 = some r0) : Met l yX12_areUnlike wsX12_areUnlike ({ frames := 2, cells := 0, slots := 0, locals := 47 }) (va_Pc [.ref (ad 0), .int a1, .int a2, .int a3, .int a4] (wPre (dC, dI) cy (wG (cM cy ad) ad 40 σ) sz)) (va_Qi (fun (r : Int32) (_ : Unit) => r = r0) (fun (_ : Unit) t => wAt (dC, dI) (va_A (wG (cM cy ad) ad 40 σ) sz) (wG (cM cy ad) ad 40 σ) t) (va_A (wG (cM cy ad) ad 40 σ) sz)) 0 0 (va_A (wG (cM cy ad) ad 40 σ) sz) := by
  refine Met.ofW (cc := cX12_areUnlike) (maxL := 7) (ret := (some .boolean)) (by decide) rfl ?_
  intro p e s m args below meth c s₁ B hml hv
  obtain ⟨rfl, hsz, hP, hK, hD0, hN⟩ := hv
  have hx := B.exec
  have hb := B.bytes
  have hr := B.returns
  have hts := atoms_spec (ws := wsX12_areUnlike) B.pre
  have hown : s.vm.findClass RX12 = some m.cls := findClass_of_methodNamed B.named
  have hlocks := B.notSynchronized
  subst hsz
  have hD := hD0.self (sz := s.heap.size)
  generalize hAe : va_A (wG (cM cy ad) ad 40 σ) s.heap.size = A at hD ⊢
  have hA : ∀ q : Nat, s.heap.size ≤ q → A q := fun q h => by rw [← hAe]; exact Or.inr h
  have hS : va_S A s.heap s.heap [] := va_S.rf
  have hl := lv_entry ([.ref (ad 0), .int a1, .int a2, .int a3, .int a4]) (n := 7) (Nat.le_of_ble_eq_true rfl)
  rw [lg_entry_eq]
  generalize (lg_sl ([.ref (ad 0), .int a1, .int a2, .int a3, .int a4]) ++ List.replicate (7 - (lg_sl ([.ref (ad 0), .int a1, .int a2, .int a3, .int a4])).length) Slot.unset).toArray = ls at hl ⊢
  have hl : lv_has ls 7 [(0, .ref (ad 0)), (1, .int a1), (2, .int a2), (3, .int a3), (4, .int a4)] := hl
  unfold fX12_areUnlike at h
  clear hAe hD0
  suffices HH : ∀ (H : Heap) (locs : List Loc) (ls : Array Slot), fX12_areUnlike_0 σ a1 a2 a3 a4 = some r0 → va_P (dC, dI) vwCl (wG (cM cy ad) ad 40 σ) H → va_D A (wG (cM cy ad) ad 40 σ) → va_S A s.heap H locs → lv_has ls 7 [(0, .ref (ad 0)), (1, .int a1), (2, .int a2), (3, .int a3), (4, .int a4)] → W p l e (headSpec wsX12_areUnlike ({ frames := 2, cells := 0, slots := 0, locals := 47 })).room s m (#[.ref (ad 0), .int a1, .int a2, .int a3, .int a4]) below meth c H locs 0 0 (MQ below (va_Qi (fun (r : Int32) (_ : Unit) => r = r0) (fun (_ : Unit) t => wAt (dC, dI) A (wG (cM cy ad) ad 40 σ) t) A) (#[.ref (ad 0), .int a1, .int a2, .int a3, .int a4]) s 0 0 A) (F0 m 0 ls []) from HH s.heap [] ls h hP hD hS hl
  have w6 : ∀ (n : Nat), ∀ (σ : S2) (x1 : Int32) (x2 : Int32) (x3 : Int32) (x4 : Int32) (x5 : Int32) (x6 : Int32) (H : Heap) (locs : List Loc) (ls : Array Slot), fX12_areUnlike_6 n σ x1 x2 x3 x4 x5 x6 = some r0 → va_P (dC, dI) vwCl (wG (cM cy ad) ad 40 σ) H → va_D A (wG (cM cy ad) ad 40 σ) → va_S A s.heap H locs → lv_has ls 7 [(0, .ref (ad 0)), (1, .int x1), (2, .int x2), (3, .int x3), (4, .int x4), (5, .int x5), (6, .int x6)] → W p l e (headSpec wsX12_areUnlike ({ frames := 2, cells := 0, slots := 0, locals := 47 })).room s m (#[.ref (ad 0), .int a1, .int a2, .int a3, .int a4]) below meth c H locs 0 0 (MQ below (va_Qi (fun (r : Int32) (_ : Unit) => r = r0) (fun (_ : Unit) t => wAt (dC, dI) A (wG (cM cy ad) ad 40 σ) t) A) (#[.ref (ad 0), .int a1, .int a2, .int a3, .int a4]) s 0 0 A) (F0 m 6 ls []) := by
    intro n
    induction n with
    | zero => intro σ x1 x2 x3 x4 x5 x6 H locs ls h; cases h
    | succ n ih =>
    intro σ x1 x2 x3 x4 x5 x6 H locs ls h hP hD hS hl
    unfold fX12_areUnlike_6 at h
    refine lv_iload hx hb dX12_areUnlike_6 (lv_at hl 6 rfl) ?_
    refine lv_iload_n hx hb dX12_areUnlike_8 rfl (lv_at hl 3 rfl) ?_
    refine lv_iload hx hb dX12_areUnlike_9 (lv_at hl 4 rfl) ?_
    refine lv_iadd hx hb dX12_areUnlike_11 ?_
    refine lv_icmp_ge (tgt := 41) hx hb dX12_areUnlike_12 (by decide) (fun hcd => ?_) (fun hcd => ?_)
    · have h := cdP hcd h
      refine lv_iload hx hb dX12_areUnlike_41 (lv_at hl 5 rfl) ?_
      refine lv_if_eq (tgt := 50) hx hb dX12_areUnlike_43 (by decide) (fun hcd => ?_) (fun hcd => ?_)
      · have h := cdP hcd h
        refine lv_iconst (v := 0) hx hb dX12_areUnlike_50 (by decide) ?_
        exact ux_zretP hx hb hr rfl h hP hD hS hlocks dX12_areUnlike_51
      · have h := cdN hcd h
        refine lv_iconst (v := 1) hx hb dX12_areUnlike_46 (by decide) ?_
        refine lv_goto (tgt := 51) hx hb dX12_areUnlike_47 (by decide) ?_
        exact ux_zretP hx hb hr rfl h hP hD hS hlocks dX12_areUnlike_51
    · have h := cdN hcd h
      refine lv_iload hx hb dX12_areUnlike_15 (lv_at hl 5 rfl) ?_
      refine lv_aload_n hx hb dX12_areUnlike_17 rfl (lv_at hl 0 rfl) ?_
      refine lv_iload_n hx hb dX12_areUnlike_18 rfl (lv_at hl 1 rfl) ?_
      refine lv_iload hx hb dX12_areUnlike_19 (lv_at hl 6 rfl) ?_
      obtain ⟨r1, hf2, h⟩ := biS h
      refine ux_calli (va_runV (As := [.int x1, .int x6]) (rest := [.int x5]) ⟨hx, hb, hml, hown, hts⟩ (tX12_leafOf l dC dI cy ad σ x1 x6 H.size r1 hf2) (cwV 2 hts gX12_areUnlike_X12_leafOf rfl rfl rfl (by decide +kernel) ⟨Nat.le_of_ble_eq_true rfl, Nat.le_of_ble_eq_true rfl⟩) (wp_V hK hN hP hD (va_recv hK hP (ci := 12) (q0 := 0) rfl (wG_of (Nat.le_of_ble_eq_true rfl) rfl))) rfl rfl hl.1 rfl (lv_room (Nat.le_of_ble_eq_true rfl)) dX12_areUnlike_21 ⟨Nat.le_of_ble_eq_true rfl, Nat.le_of_ble_eq_true rfl⟩) hD hS hA (fun H locs hP hD hS => ?_)
      refine lv_aload_n hx hb dX12_areUnlike_24 rfl (lv_at hl 0 rfl) ?_
      refine lv_iload_n hx hb dX12_areUnlike_25 rfl (lv_at hl 2 rfl) ?_
      refine lv_iload hx hb dX12_areUnlike_26 (lv_at hl 6 rfl) ?_
      obtain ⟨r3, hf4, h⟩ := biS h
      refine ux_calli (va_runV (As := [.int x2, .int x6]) (rest := [.int r1, .int x5]) ⟨hx, hb, hml, hown, hts⟩ (tX12_leafOf l dC dI cy ad σ x2 x6 H.size r3 hf4) (cwV 2 hts gX12_areUnlike_X12_leafOf rfl rfl rfl (by decide +kernel) ⟨Nat.le_of_ble_eq_true rfl, Nat.le_of_ble_eq_true rfl⟩) (wp_V hK hN hP hD (va_recv hK hP (ci := 12) (q0 := 0) rfl (wG_of (Nat.le_of_ble_eq_true rfl) rfl))) rfl rfl hl.1 rfl (lv_room (Nat.le_of_ble_eq_true rfl)) dX12_areUnlike_28 ⟨Nat.le_of_ble_eq_true rfl, Nat.le_of_ble_eq_true rfl⟩) hD hS hA (fun H locs hP hD hS => ?_)
      refine lv_isub hx hb dX12_areUnlike_31 ?_
      refine lv_iadd hx hb dX12_areUnlike_32 ?_
      refine lv_topi (fun v5 ev5 => ?_)
      have h := nmS h ev5
      refine lv_istore (lv' := [(5, .int v5), (0, .ref (ad 0)), (1, .int x1), (2, .int x2), (3, .int x3), (4, .int x4), (6, .int x6)]) hx hb dX12_areUnlike_33 hl (by decide) rfl (fun ls hl => ?_)
      have hl := lv_sub hl [1, 2, 3, 4, 5, 0, 6] (l' := [(0, .ref (ad 0)), (1, .int x1), (2, .int x2), (3, .int x3), (4, .int x4), (5, .int v5), (6, .int x6)]) rfl
      obtain ⟨v6, ev6⟩ : ∃ y : Int32, y = x6 + 1 := ⟨_, rfl⟩
      have h := nmS h ev6
      refine lv_iinc (v := v6) (lv' := [(6, .int v6), (0, .ref (ad 0)), (1, .int x1), (2, .int x2), (3, .int x3), (4, .int x4), (5, .int v5)]) hx hb dX12_areUnlike_35 hl (k := 6) rfl (by rw [ev6]; rfl) (by decide) rfl (fun ls hl => ?_)
      have hl := lv_sub hl [1, 2, 3, 4, 5, 6, 0] (l' := [(0, .ref (ad 0)), (1, .int x1), (2, .int x2), (3, .int x3), (4, .int x4), (5, .int v5), (6, .int v6)]) rfl
      refine lv_goto (tgt := 6) hx hb dX12_areUnlike_38 (by decide) ?_
      exact ih σ x1 x2 x3 x4 v5 v6 H locs ls h hP hD hS hl
  have w0 : ∀ (σ : S2) (x1 : Int32) (x2 : Int32) (x3 : Int32) (x4 : Int32) (H : Heap) (locs : List Loc) (ls : Array Slot), fX12_areUnlike_0 σ x1 x2 x3 x4 = some r0 → va_P (dC, dI) vwCl (wG (cM cy ad) ad 40 σ) H → va_D A (wG (cM cy ad) ad 40 σ) → va_S A s.heap H locs → lv_has ls 7 [(0, .ref (ad 0)), (1, .int x1), (2, .int x2), (3, .int x3), (4, .int x4)] → W p l e (headSpec wsX12_areUnlike ({ frames := 2, cells := 0, slots := 0, locals := 47 })).room s m (#[.ref (ad 0), .int a1, .int a2, .int a3, .int a4]) below meth c H locs 0 0 (MQ below (va_Qi (fun (r : Int32) (_ : Unit) => r = r0) (fun (_ : Unit) t => wAt (dC, dI) A (wG (cM cy ad) ad 40 σ) t) A) (#[.ref (ad 0), .int a1, .int a2, .int a3, .int a4]) s 0 0 A) (F0 m 0 ls []) := by
    intro σ x1 x2 x3 x4 H locs ls h hP hD hS hl
    unfold fX12_areUnlike_0 at h
    refine lv_iconst (v := 0) hx hb dX12_areUnlike_0 (by decide) ?_
    refine lv_istore (lv' := [(5, .int 0), (0, .ref (ad 0)), (1, .int x1), (2, .int x2), (3, .int x3), (4, .int x4)]) hx hb dX12_areUnlike_1 hl (by decide) rfl (fun ls hl => ?_)
    have hl := lv_sub hl [1, 2, 3, 4, 5, 0] (l' := [(0, .ref (ad 0)), (1, .int x1), (2, .int x2), (3, .int x3), (4, .int x4), (5, .int 0)]) rfl
    refine lv_iload_n hx hb dX12_areUnlike_3 rfl (lv_at hl 3 rfl) ?_
    refine lv_istore (lv' := [(6, .int x3), (0, .ref (ad 0)), (1, .int x1), (2, .int x2), (3, .int x3), (4, .int x4), (5, .int 0)]) hx hb dX12_areUnlike_4 hl (by decide) rfl (fun ls hl => ?_)
    have hl := lv_sub hl [1, 2, 3, 4, 5, 6, 0] (l' := [(0, .ref (ad 0)), (1, .int x1), (2, .int x2), (3, .int x3), (4, .int x4), (5, .int 0), (6, .int x3)]) rfl
    exact w6 FU σ x1 x2 x3 x4 0 x3 H locs ls h hP hD hS hl
  intro H locs ls h hP hD hS hl
  exact w0 σ a1 a2 a3 a4 H locs ls h hP hD hS (lv_sub hl [0, 1, 2, 3, 4] rfl)

set_option maxHeartbeats 4000000 in
set_option maxRecDepth 100000 in
theorem uX12_wordsBelow (l : Launch) (dC : Nat → ClassId) (dI : Nat → Nat → Nat) (cy : Nat → ClassId) (ad : Nat → Nat) (d : Nat) (qX12_wordsBelow : S2 → Int32 → Int32 → Int32 → Int32 → Option Int32) (hqX12_wordsBelow : ∀ (σ : S2) (a1 : Int32) (a2 : Int32) (a3 : Int32) (a4 : Int32) (sz : Nat) (r0 : Int32), qX12_wordsBelow σ a1 a2 a3 a4 = some r0 → Met l yX12_wordsBelow wsX12_wordsBelow ({ frames := 3 + d, cells := 0, slots := 0, locals := 73 + 24 * d }) (va_Pc [.ref (ad 0), .int a1, .int a2, .int a3, .int a4] (wPre (dC, dI) cy (wG (cM cy ad) ad 40 σ) sz)) (va_Qi (fun (r : Int32) (_ : Unit) => r = r0) (fun (_ : Unit) t => wAt (dC, dI) (va_A (wG (cM cy ad) ad 40 σ) sz) (wG (cM cy ad) ad 40 σ) t) (va_A (wG (cM cy ad) ad 40 σ) sz)) 0 0 (va_A (wG (cM cy ad) ad 40 σ) sz)) (σ : S2) (a1 : Int32) (a2 : Int32) (a3 : Int32) (a4 : Int32) (sz : Nat) (r0 : Int32) (h : eX12_wordsBelow qX12_wordsBelow σ a1 a2 a3 a4 = some r0) : Met l yX12_wordsBelow wsX12_wordsBelow ({ frames := 3 + (d + 1), cells := 0, slots := 0, locals := 73 + 24 * (d + 1) }) (va_Pc [.ref (ad 0), .int a1, .int a2, .int a3, .int a4] (wPre (dC, dI) cy (wG (cM cy ad) ad 40 σ) sz)) (va_Qi (fun (r : Int32) (_ : Unit) => r = r0) (fun (_ : Unit) t => wAt (dC, dI) (va_A (wG (cM cy ad) ad 40 σ) sz) (wG (cM cy ad) ad 40 σ) t) (va_A (wG (cM cy ad) ad 40 σ) sz)) 0 0 (va_A (wG (cM cy ad) ad 40 σ) sz) := by
  refine Met.ofW (cc := cX12_wordsBelow) (maxL := 5) (ret := (some .int)) (by decide) rfl ?_
  intro p e s m args below meth c s₁ B hml hv
  obtain ⟨rfl, hsz, hP, hK, hD0, hN⟩ := hv
  have hx := B.exec
  have hb := B.bytes
  have hr := B.returns
  have hts := atoms_spec (ws := wsX12_wordsBelow) B.pre
  have hown : s.vm.findClass RX12 = some m.cls := findClass_of_methodNamed B.named
  have hlocks := B.notSynchronized
  subst hsz
  have hD := hD0.self (sz := s.heap.size)
  generalize hAe : va_A (wG (cM cy ad) ad 40 σ) s.heap.size = A at hD ⊢
  have hA : ∀ q : Nat, s.heap.size ≤ q → A q := fun q h => by rw [← hAe]; exact Or.inr h
  have hS : va_S A s.heap s.heap [] := va_S.rf
  have hl := lv_entry ([.ref (ad 0), .int a1, .int a2, .int a3, .int a4]) (n := 5) (Nat.le_of_ble_eq_true rfl)
  rw [lg_entry_eq]
  generalize (lg_sl ([.ref (ad 0), .int a1, .int a2, .int a3, .int a4]) ++ List.replicate (5 - (lg_sl ([.ref (ad 0), .int a1, .int a2, .int a3, .int a4])).length) Slot.unset).toArray = ls at hl ⊢
  have hl : lv_has ls 5 [(0, .ref (ad 0)), (1, .int a1), (2, .int a2), (3, .int a3), (4, .int a4)] := hl
  unfold eX12_wordsBelow at h
  clear hAe hD0
  suffices HH : ∀ (H : Heap) (locs : List Loc) (ls : Array Slot), fX12_wordsBelow_0 qX12_wordsBelow σ a1 a2 a3 a4 = some r0 → va_P (dC, dI) vwCl (wG (cM cy ad) ad 40 σ) H → va_D A (wG (cM cy ad) ad 40 σ) → va_S A s.heap H locs → lv_has ls 5 [(0, .ref (ad 0)), (1, .int a1), (2, .int a2), (3, .int a3), (4, .int a4)] → W p l e (headSpec wsX12_wordsBelow ({ frames := 3 + (d + 1), cells := 0, slots := 0, locals := 73 + 24 * (d + 1) })).room s m (#[.ref (ad 0), .int a1, .int a2, .int a3, .int a4]) below meth c H locs 0 0 (MQ below (va_Qi (fun (r : Int32) (_ : Unit) => r = r0) (fun (_ : Unit) t => wAt (dC, dI) A (wG (cM cy ad) ad 40 σ) t) A) (#[.ref (ad 0), .int a1, .int a2, .int a3, .int a4]) s 0 0 A) (F0 m 0 ls []) from HH s.heap [] ls h hP hD hS hl
  have w0 : ∀ (σ : S2) (x1 : Int32) (x2 : Int32) (x3 : Int32) (x4 : Int32) (H : Heap) (locs : List Loc) (ls : Array Slot), fX12_wordsBelow_0 qX12_wordsBelow σ x1 x2 x3 x4 = some r0 → va_P (dC, dI) vwCl (wG (cM cy ad) ad 40 σ) H → va_D A (wG (cM cy ad) ad 40 σ) → va_S A s.heap H locs → lv_has ls 5 [(0, .ref (ad 0)), (1, .int x1), (2, .int x2), (3, .int x3), (4, .int x4)] → W p l e (headSpec wsX12_wordsBelow ({ frames := 3 + (d + 1), cells := 0, slots := 0, locals := 73 + 24 * (d + 1) })).room s m (#[.ref (ad 0), .int a1, .int a2, .int a3, .int a4]) below meth c H locs 0 0 (MQ below (va_Qi (fun (r : Int32) (_ : Unit) => r = r0) (fun (_ : Unit) t => wAt (dC, dI) A (wG (cM cy ad) ad 40 σ) t) A) (#[.ref (ad 0), .int a1, .int a2, .int a3, .int a4]) s 0 0 A) (F0 m 0 ls []) := by
    intro σ x1 x2 x3 x4 H locs ls h hP hD hS hl
    unfold fX12_wordsBelow_0 at h
    refine lv_iload hx hb dX12_wordsBelow_0 (lv_at hl 4 rfl) ?_
    refine lv_iconst (v := 1) hx hb dX12_wordsBelow_2 (by decide) ?_
    refine lv_icmp_eq (tgt := 18) hx hb dX12_wordsBelow_3 (by decide) (fun hcd => ?_) (fun hcd => ?_)
    · have h := cdP hcd h
      refine lv_iconst (v := 0) hx hb dX12_wordsBelow_18 (by decide) ?_
      exact ux_iretP hx hb hr h hP hD hS hlocks dX12_wordsBelow_19
    · have h := cdN hcd h
      refine lv_aload_n hx hb dX12_wordsBelow_6 rfl (lv_at hl 0 rfl) ?_
      refine lv_iload_n hx hb dX12_wordsBelow_7 rfl (lv_at hl 1 rfl) ?_
      refine lv_iload_n hx hb dX12_wordsBelow_8 rfl (lv_at hl 2 rfl) ?_
      refine lv_iload_n hx hb dX12_wordsBelow_9 rfl (lv_at hl 3 rfl) ?_
      refine lv_iload hx hb dX12_wordsBelow_10 (lv_at hl 4 rfl) ?_
      obtain ⟨r1, hf2, h⟩ := biS h
      refine ux_calli (va_runV (As := [.int x1, .int x2, .int x3, .int x4]) (rest := []) ⟨hx, hb, hml, hown, hts⟩ (tX12_areUnlike l dC dI cy ad σ x1 x2 x3 x4 H.size r1 hf2) (cwV 4 hts gX12_wordsBelow_X12_areUnlike rfl rfl rfl (by decide +kernel) ⟨by show 2 + 1 ≤ 3 + (d + 1); omega, by show 8 + (7 + 11) + 47 ≤ 73 + 24 * (d + 1); omega⟩) (wp_V hK hN hP hD (va_recv hK hP (ci := 12) (q0 := 0) rfl (wG_of (Nat.le_of_ble_eq_true rfl) rfl))) rfl rfl hl.1 rfl (lv_room (Nat.le_of_ble_eq_true rfl)) dX12_wordsBelow_12 ⟨Nat.le_of_ble_eq_true rfl, Nat.le_of_ble_eq_true rfl⟩) hD hS hA (fun H locs hP hD hS => ?_)
      refine lv_if_ne (tgt := 20) hx hb dX12_wordsBelow_15 (by decide) (fun hcd => ?_) (fun hcd => ?_)
      · have h := cdN hcd h
        refine lv_iconst (v := 2) hx hb dX12_wordsBelow_20 (by decide) ?_
        refine lv_aload_n hx hb dX12_wordsBelow_21 rfl (lv_at hl 0 rfl) ?_
        refine lv_iload_n hx hb dX12_wordsBelow_22 rfl (lv_at hl 1 rfl) ?_
        refine lv_iload_n hx hb dX12_wordsBelow_23 rfl (lv_at hl 2 rfl) ?_
        refine lv_iload_n hx hb dX12_wordsBelow_24 rfl (lv_at hl 3 rfl) ?_
        refine lv_iload hx hb dX12_wordsBelow_25 (lv_at hl 4 rfl) ?_
        refine lv_iconst (v := 2) hx hb dX12_wordsBelow_27 (by decide) ?_
        obtain ⟨hz3, h⟩ := dzS h
        refine lv_idiv hx hb dX12_wordsBelow_28 hz3 ?_
        change W _ _ _ _ _ _ _ _ _ _ _ _ _ _ _ (F0 m 29 ls [.int (x4 / 2), .int x3, .int x2, .int x1, .ref (ad 0), .int 2])
        obtain ⟨r4, hf5, h⟩ := biS h
        refine ux_calli (va_runV (As := [.int x1, .int x2, .int x3, .int (x4 / 2)]) (rest := [.int 2]) ⟨hx, hb, hml, hown, hts⟩ (hqX12_wordsBelow σ x1 x2 x3 (x4 / 2) H.size r4 hf5) (cwV 4 hts gX12_wordsBelow_X12_wordsBelow rfl rfl rfl (by decide +kernel) ⟨by show (3 + d) + 1 ≤ 3 + (d + 1); omega, by show 8 + (5 + 11) + (73 + 24 * d) ≤ 73 + 24 * (d + 1); omega⟩) (wp_V hK hN hP hD (va_recv hK hP (ci := 12) (q0 := 0) rfl (wG_of (Nat.le_of_ble_eq_true rfl) rfl))) rfl rfl hl.1 rfl (lv_room (Nat.le_of_ble_eq_true rfl)) dX12_wordsBelow_29 ⟨Nat.le_of_ble_eq_true rfl, Nat.le_of_ble_eq_true rfl⟩) hD hS hA (fun H locs hP hD hS => ?_)
        refine lv_iadd hx hb dX12_wordsBelow_32 ?_
        refine lv_aload_n hx hb dX12_wordsBelow_33 rfl (lv_at hl 0 rfl) ?_
        refine lv_iload_n hx hb dX12_wordsBelow_34 rfl (lv_at hl 1 rfl) ?_
        refine lv_iload_n hx hb dX12_wordsBelow_35 rfl (lv_at hl 2 rfl) ?_
        refine lv_iload_n hx hb dX12_wordsBelow_36 rfl (lv_at hl 3 rfl) ?_
        refine lv_iload hx hb dX12_wordsBelow_37 (lv_at hl 4 rfl) ?_
        refine lv_iconst (v := 2) hx hb dX12_wordsBelow_39 (by decide) ?_
        obtain ⟨hz6, h⟩ := dzS h
        refine lv_idiv hx hb dX12_wordsBelow_40 hz6 ?_
        change W _ _ _ _ _ _ _ _ _ _ _ _ _ _ _ (F0 m 41 ls [.int (x4 / 2), .int x3, .int x2, .int x1, .ref (ad 0), .int (2 + r4)])
        refine lv_iadd hx hb dX12_wordsBelow_41 ?_
        refine lv_iload hx hb dX12_wordsBelow_42 (lv_at hl 4 rfl) ?_
        refine lv_iconst (v := 2) hx hb dX12_wordsBelow_44 (by decide) ?_
        obtain ⟨hz7, h⟩ := dzS h
        refine lv_idiv hx hb dX12_wordsBelow_45 hz7 ?_
        obtain ⟨r8, hf9, h⟩ := biS h
        refine ux_calli (va_runV (As := [.int x1, .int x2, .int (x3 + (x4 / 2)), .int (x4 / 2)]) (rest := [.int (2 + r4)]) ⟨hx, hb, hml, hown, hts⟩ (hqX12_wordsBelow σ x1 x2 (x3 + (x4 / 2)) (x4 / 2) H.size r8 hf9) (cwV 4 hts gX12_wordsBelow_X12_wordsBelow rfl rfl rfl (by decide +kernel) ⟨by show (3 + d) + 1 ≤ 3 + (d + 1); omega, by show 8 + (5 + 11) + (73 + 24 * d) ≤ 73 + 24 * (d + 1); omega⟩) (wp_V hK hN hP hD (va_recv hK hP (ci := 12) (q0 := 0) rfl (wG_of (Nat.le_of_ble_eq_true rfl) rfl))) rfl rfl hl.1 rfl (lv_room (Nat.le_of_ble_eq_true rfl)) dX12_wordsBelow_46 ⟨Nat.le_of_ble_eq_true rfl, Nat.le_of_ble_eq_true rfl⟩) hD hS hA (fun H locs hP hD hS => ?_)
        refine lv_iadd hx hb dX12_wordsBelow_49 ?_
        exact ux_iretP hx hb hr h hP hD hS hlocks dX12_wordsBelow_50
      · have h := cdP hcd h
        refine lv_iconst (v := 0) hx hb dX12_wordsBelow_18 (by decide) ?_
        exact ux_iretP hx hb hr h hP hD hS hlocks dX12_wordsBelow_19
  intro H locs ls h hP hD hS hl
  exact w0 σ a1 a2 a3 a4 H locs ls h hP hD hS (lv_sub hl [0, 1, 2, 3, 4] rfl)

set_option maxRecDepth 100000 in
theorem gGX12_wordsBelow (l : Launch) (dC : Nat → ClassId) (dI : Nat → Nat → Nat) (cy : Nat → ClassId) (ad : Nat → Nat) (d : Nat) : (∀ (σ : S2) (a1 : Int32) (a2 : Int32) (a3 : Int32) (a4 : Int32) (sz : Nat) (r0 : Int32), GX12_wordsBelow d 0 σ a1 a2 a3 a4 = some r0 → Met l yX12_wordsBelow wsX12_wordsBelow ({ frames := 3 + d, cells := 0, slots := 0, locals := 73 + 24 * d }) (va_Pc [.ref (ad 0), .int a1, .int a2, .int a3, .int a4] (wPre (dC, dI) cy (wG (cM cy ad) ad 40 σ) sz)) (va_Qi (fun (r : Int32) (_ : Unit) => r = r0) (fun (_ : Unit) t => wAt (dC, dI) (va_A (wG (cM cy ad) ad 40 σ) sz) (wG (cM cy ad) ad 40 σ) t) (va_A (wG (cM cy ad) ad 40 σ) sz)) 0 0 (va_A (wG (cM cy ad) ad 40 σ) sz)) := by
  induction d with
  | zero => exact (by intros; contradiction)
  | succ d ih =>
    exact (fun σ a1 a2 a3 a4 sz r0 h => uX12_wordsBelow l dC dI cy ad d _ (ih) σ a1 a2 a3 a4 sz r0 h)

theorem tX12_wordsBelow (l : Launch) (dC : Nat → ClassId) (dI : Nat → Nat → Nat) (cy : Nat → ClassId) (ad : Nat → Nat) : ∀ (σ : S2) (a1 : Int32) (a2 : Int32) (a3 : Int32) (a4 : Int32) (sz : Nat) (r0 : Int32), fX12_wordsBelow σ a1 a2 a3 a4 = some r0 → Met l yX12_wordsBelow wsX12_wordsBelow ({ frames := 27, cells := 0, slots := 0, locals := 649 }) (va_Pc [.ref (ad 0), .int a1, .int a2, .int a3, .int a4] (wPre (dC, dI) cy (wG (cM cy ad) ad 40 σ) sz)) (va_Qi (fun (r : Int32) (_ : Unit) => r = r0) (fun (_ : Unit) t => wAt (dC, dI) (va_A (wG (cM cy ad) ad 40 σ) sz) (wG (cM cy ad) ad 40 σ) t) (va_A (wG (cM cy ad) ad 40 σ) sz)) 0 0 (va_A (wG (cM cy ad) ad 40 σ) sz) := (gGX12_wordsBelow l dC dI cy ad 24)

set_option maxHeartbeats 4000000 in
set_option maxRecDepth 100000 in
theorem tX12_trees (l : Launch) (dC : Nat → ClassId) (dI : Nat → Nat → Nat) (cy : Nat → ClassId) (ad : Nat → Nat) (σ : S2) (a1 : Int32) (a2 : Int32) (a3 : Int32) (sz : Nat) (r0 : Int32) (h : fX12_trees σ a1 a2 a3 = some r0) : Met l yX12_trees wsX12_trees ({ frames := 28, cells := 0, slots := 0, locals := 673 }) (va_Pc [.ref (ad 0), .int a1, .int a2, .int a3] (wPre (dC, dI) cy (wG (cM cy ad) ad 40 σ) sz)) (va_Qi (fun (r : Int32) (_ : Unit) => r = r0) (fun (_ : Unit) t => wAt (dC, dI) (va_A (wG (cM cy ad) ad 40 σ) sz) (wG (cM cy ad) ad 40 σ) t) (va_A (wG (cM cy ad) ad 40 σ) sz)) 0 0 (va_A (wG (cM cy ad) ad 40 σ) sz) := by
  refine Met.ofW (cc := cX12_trees) (maxL := 6) (ret := (some .int)) (by decide) rfl ?_
  intro p e s m args below meth c s₁ B hml hv
  obtain ⟨rfl, hsz, hP, hK, hD0, hN⟩ := hv
  have hx := B.exec
  have hb := B.bytes
  have hr := B.returns
  have hts := atoms_spec (ws := wsX12_trees) B.pre
  have hown : s.vm.findClass RX12 = some m.cls := findClass_of_methodNamed B.named
  have hlocks := B.notSynchronized
  subst hsz
  have hD := hD0.self (sz := s.heap.size)
  generalize hAe : va_A (wG (cM cy ad) ad 40 σ) s.heap.size = A at hD ⊢
  have hA : ∀ q : Nat, s.heap.size ≤ q → A q := fun q h => by rw [← hAe]; exact Or.inr h
  have hS : va_S A s.heap s.heap [] := va_S.rf
  have hl := lv_entry ([.ref (ad 0), .int a1, .int a2, .int a3]) (n := 6) (Nat.le_of_ble_eq_true rfl)
  rw [lg_entry_eq]
  generalize (lg_sl ([.ref (ad 0), .int a1, .int a2, .int a3]) ++ List.replicate (6 - (lg_sl ([.ref (ad 0), .int a1, .int a2, .int a3])).length) Slot.unset).toArray = ls at hl ⊢
  have hl : lv_has ls 6 [(0, .ref (ad 0)), (1, .int a1), (2, .int a2), (3, .int a3)] := hl
  unfold fX12_trees at h
  clear hAe hD0
  suffices HH : ∀ (H : Heap) (locs : List Loc) (ls : Array Slot), fX12_trees_0 σ a1 a2 a3 = some r0 → va_P (dC, dI) vwCl (wG (cM cy ad) ad 40 σ) H → va_D A (wG (cM cy ad) ad 40 σ) → va_S A s.heap H locs → lv_has ls 6 [(0, .ref (ad 0)), (1, .int a1), (2, .int a2), (3, .int a3)] → W p l e (headSpec wsX12_trees ({ frames := 28, cells := 0, slots := 0, locals := 673 })).room s m (#[.ref (ad 0), .int a1, .int a2, .int a3]) below meth c H locs 0 0 (MQ below (va_Qi (fun (r : Int32) (_ : Unit) => r = r0) (fun (_ : Unit) t => wAt (dC, dI) A (wG (cM cy ad) ad 40 σ) t) A) (#[.ref (ad 0), .int a1, .int a2, .int a3]) s 0 0 A) (F0 m 0 ls []) from HH s.heap [] ls h hP hD hS hl
  have w80 : ∀ (k54 : S2 → Int32 → Int32 → Int32 → Int32 → Option Int32) (hk54 : ∀ (σ : S2) (x1 : Int32) (x2 : Int32) (x4 : Int32) (x5 : Int32) (H : Heap) (locs : List Loc) (ls : Array Slot), k54 σ x1 x2 x4 x5 = some r0 → va_P (dC, dI) vwCl (wG (cM cy ad) ad 40 σ) H → va_D A (wG (cM cy ad) ad 40 σ) → va_S A s.heap H locs → lv_has ls 6 [(0, .ref (ad 0)), (1, .int x1), (2, .int x2), (4, .int x4), (5, .int x5)] → W p l e (headSpec wsX12_trees ({ frames := 28, cells := 0, slots := 0, locals := 673 })).room s m (#[.ref (ad 0), .int a1, .int a2, .int a3]) below meth c H locs 0 0 (MQ below (va_Qi (fun (r : Int32) (_ : Unit) => r = r0) (fun (_ : Unit) t => wAt (dC, dI) A (wG (cM cy ad) ad 40 σ) t) A) (#[.ref (ad 0), .int a1, .int a2, .int a3]) s 0 0 A) (F0 m 54 ls [])) , ∀ (σ : S2) (x1 : Int32) (x2 : Int32) (x5 : Int32) (s0 : Int32) (s1 : Int32) (H : Heap) (locs : List Loc) (ls : Array Slot), fX12_trees_80 k54 σ x1 x2 x5 s0 s1 = some r0 → va_P (dC, dI) vwCl (wG (cM cy ad) ad 40 σ) H → va_D A (wG (cM cy ad) ad 40 σ) → va_S A s.heap H locs → lv_has ls 6 [(0, .ref (ad 0)), (1, .int x1), (2, .int x2), (5, .int x5)] → W p l e (headSpec wsX12_trees ({ frames := 28, cells := 0, slots := 0, locals := 673 })).room s m (#[.ref (ad 0), .int a1, .int a2, .int a3]) below meth c H locs 0 0 (MQ below (va_Qi (fun (r : Int32) (_ : Unit) => r = r0) (fun (_ : Unit) t => wAt (dC, dI) A (wG (cM cy ad) ad 40 σ) t) A) (#[.ref (ad 0), .int a1, .int a2, .int a3]) s 0 0 A) (F0 m 80 ls [.int s0, .int s1]) := by
    intro k54 hk54 σ x1 x2 x5 s0 s1 H locs ls h hP hD hS hl
    unfold fX12_trees_80 at h
    refine lv_iadd hx hb dX12_trees_80 ?_
    refine lv_topi (fun v1 ev1 => ?_)
    have h := nmS h ev1
    refine lv_istore (lv' := [(4, .int v1), (0, .ref (ad 0)), (1, .int x1), (2, .int x2), (5, .int x5)]) hx hb dX12_trees_81 hl (by decide) rfl (fun ls hl => ?_)
    have hl := lv_sub hl [1, 2, 3, 0, 4] (l' := [(0, .ref (ad 0)), (1, .int x1), (2, .int x2), (4, .int v1), (5, .int x5)]) rfl
    obtain ⟨v2, ev2⟩ : ∃ y : Int32, y = x5 + 1 := ⟨_, rfl⟩
    have h := nmS h ev2
    refine lv_iinc (v := v2) (lv' := [(5, .int v2), (0, .ref (ad 0)), (1, .int x1), (2, .int x2), (4, .int v1)]) hx hb dX12_trees_83 hl (k := 4) rfl (by rw [ev2]; rfl) (by decide) rfl (fun ls hl => ?_)
    have hl := lv_sub hl [1, 2, 3, 4, 0] (l' := [(0, .ref (ad 0)), (1, .int x1), (2, .int x2), (4, .int v1), (5, .int v2)]) rfl
    refine lv_goto (tgt := 54) hx hb dX12_trees_86 (by decide) ?_
    exact hk54 σ x1 x2 v1 v2 H locs ls h hP hD hS hl
  have w54 : ∀ (n : Nat), ∀ (σ : S2) (x1 : Int32) (x2 : Int32) (x4 : Int32) (x5 : Int32) (H : Heap) (locs : List Loc) (ls : Array Slot), fX12_trees_54 n σ x1 x2 x4 x5 = some r0 → va_P (dC, dI) vwCl (wG (cM cy ad) ad 40 σ) H → va_D A (wG (cM cy ad) ad 40 σ) → va_S A s.heap H locs → lv_has ls 6 [(0, .ref (ad 0)), (1, .int x1), (2, .int x2), (4, .int x4), (5, .int x5)] → W p l e (headSpec wsX12_trees ({ frames := 28, cells := 0, slots := 0, locals := 673 })).room s m (#[.ref (ad 0), .int a1, .int a2, .int a3]) below meth c H locs 0 0 (MQ below (va_Qi (fun (r : Int32) (_ : Unit) => r = r0) (fun (_ : Unit) t => wAt (dC, dI) A (wG (cM cy ad) ad 40 σ) t) A) (#[.ref (ad 0), .int a1, .int a2, .int a3]) s 0 0 A) (F0 m 54 ls []) := by
    intro n
    induction n with
    | zero => intro σ x1 x2 x4 x5 H locs ls h; cases h
    | succ n ih =>
    intro σ x1 x2 x4 x5 H locs ls h hP hD hS hl
    unfold fX12_trees_54 at h
    refine lv_iload hx hb dX12_trees_54 (lv_at hl 4 rfl) ?_
    refine lv_bipush (v := 8) hx hb dX12_trees_56 (by decide) ?_
    refine lv_icmp_ge (tgt := 89) hx hb dX12_trees_58 (by decide) (fun hcd => ?_) (fun hcd => ?_)
    · have h := cdP hcd h
      refine lv_iload hx hb dX12_trees_89 (lv_at hl 3 rfl) ?_
      exact ux_iretP hx hb hr h hP hD hS hlocks dX12_trees_91
    · have h := cdN hcd h
      refine lv_iload hx hb dX12_trees_61 (lv_at hl 3 rfl) ?_
      refine lv_aload_n hx hb dX12_trees_63 rfl (lv_at hl 0 rfl) ?_
      refine lv_iload_n hx hb dX12_trees_64 rfl (lv_at hl 1 rfl) ?_
      refine lv_iload_n hx hb dX12_trees_65 rfl (lv_at hl 2 rfl) ?_
      refine lv_iload hx hb dX12_trees_66 (lv_at hl 4 rfl) ?_
      refine lv_iconst (v := 1) hx hb dX12_trees_68 (by decide) ?_
      obtain ⟨r3, hf4, h⟩ := biS h
      refine ux_calli (va_runV (As := [.int x1, .int x2, .int x5, .int 1]) (rest := [.int x4]) ⟨hx, hb, hml, hown, hts⟩ (tX12_areUnlike l dC dI cy ad σ x1 x2 x5 1 H.size r3 hf4) (cwV 4 hts gX12_trees_X12_areUnlike rfl rfl rfl (by decide +kernel) ⟨Nat.le_of_ble_eq_true rfl, Nat.le_of_ble_eq_true rfl⟩) (wp_V hK hN hP hD (va_recv hK hP (ci := 12) (q0 := 0) rfl (wG_of (Nat.le_of_ble_eq_true rfl) rfl))) rfl rfl hl.1 rfl (lv_room (Nat.le_of_ble_eq_true rfl)) dX12_trees_69 ⟨Nat.le_of_ble_eq_true rfl, Nat.le_of_ble_eq_true rfl⟩) hD hS hA (fun H locs hP hD hS => ?_)
      refine lv_if_eq (tgt := 79) hx hb dX12_trees_72 (by decide) (fun hcd => ?_) (fun hcd => ?_)
      · have h := cdP hcd h
        refine lv_iconst (v := 0) hx hb dX12_trees_79 (by decide) ?_
        exact w80 _ ih σ x1 x2 x5 0 x4 H locs ls h hP hD hS (lv_sub hl [0, 1, 2, 4] rfl)
      · have h := cdN hcd h
        refine lv_iconst (v := 1) hx hb dX12_trees_75 (by decide) ?_
        refine lv_goto (tgt := 80) hx hb dX12_trees_76 (by decide) ?_
        exact w80 _ ih σ x1 x2 x5 1 x4 H locs ls h hP hD hS (lv_sub hl [0, 1, 2, 4] rfl)
  have w0 : ∀ (σ : S2) (x1 : Int32) (x2 : Int32) (x3 : Int32) (H : Heap) (locs : List Loc) (ls : Array Slot), fX12_trees_0 σ x1 x2 x3 = some r0 → va_P (dC, dI) vwCl (wG (cM cy ad) ad 40 σ) H → va_D A (wG (cM cy ad) ad 40 σ) → va_S A s.heap H locs → lv_has ls 6 [(0, .ref (ad 0)), (1, .int x1), (2, .int x2), (3, .int x3)] → W p l e (headSpec wsX12_trees ({ frames := 28, cells := 0, slots := 0, locals := 673 })).room s m (#[.ref (ad 0), .int a1, .int a2, .int a3]) below meth c H locs 0 0 (MQ below (va_Qi (fun (r : Int32) (_ : Unit) => r = r0) (fun (_ : Unit) t => wAt (dC, dI) A (wG (cM cy ad) ad 40 σ) t) A) (#[.ref (ad 0), .int a1, .int a2, .int a3]) s 0 0 A) (F0 m 0 ls []) := by
    intro σ x1 x2 x3 H locs ls h hP hD hS hl
    unfold fX12_trees_0 at h
    refine lv_aload_n hx hb dX12_trees_0 rfl (lv_at hl 0 rfl) ?_
    refine lv_iload_n hx hb dX12_trees_1 rfl (lv_at hl 1 rfl) ?_
    obtain ⟨r5, hf6, h⟩ := biS h
    refine ux_calli (va_runV (As := [.int x1]) (rest := []) ⟨hx, hb, hml, hown, hts⟩ (tX12_isKeeper l dC dI cy ad σ x1 H.size r5 hf6) (cwV 1 hts gX12_trees_X12_isKeeper rfl rfl rfl (by decide +kernel) ⟨Nat.le_of_ble_eq_true rfl, Nat.le_of_ble_eq_true rfl⟩) (wp_V hK hN hP hD (va_recv hK hP (ci := 12) (q0 := 0) rfl (wG_of (Nat.le_of_ble_eq_true rfl) rfl))) rfl rfl hl.1 rfl (lv_room (Nat.le_of_ble_eq_true rfl)) dX12_trees_2 ⟨Nat.le_of_ble_eq_true rfl, Nat.le_of_ble_eq_true rfl⟩) hD hS hA (fun H locs hP hD hS => ?_)
    refine lv_if_eq (tgt := 30) hx hb dX12_trees_5 (by decide) (fun hcd => ?_) (fun hcd => ?_)
    · have h := cdP hcd h
      refine lv_iconst (v := (-1)) hx hb dX12_trees_30 (by decide) ?_
      exact ux_iretP hx hb hr h hP hD hS hlocks dX12_trees_31
    · have h := cdN hcd h
      refine lv_aload_n hx hb dX12_trees_8 rfl (lv_at hl 0 rfl) ?_
      refine lv_iload_n hx hb dX12_trees_9 rfl (lv_at hl 2 rfl) ?_
      obtain ⟨r7, hf8, h⟩ := biS h
      refine ux_calli (va_runV (As := [.int x2]) (rest := []) ⟨hx, hb, hml, hown, hts⟩ (tX12_isKeeper l dC dI cy ad σ x2 H.size r7 hf8) (cwV 1 hts gX12_trees_X12_isKeeper rfl rfl rfl (by decide +kernel) ⟨Nat.le_of_ble_eq_true rfl, Nat.le_of_ble_eq_true rfl⟩) (wp_V hK hN hP hD (va_recv hK hP (ci := 12) (q0 := 0) rfl (wG_of (Nat.le_of_ble_eq_true rfl) rfl))) rfl rfl hl.1 rfl (lv_room (Nat.le_of_ble_eq_true rfl)) dX12_trees_10 ⟨Nat.le_of_ble_eq_true rfl, Nat.le_of_ble_eq_true rfl⟩) hD hS hA (fun H locs hP hD hS => ?_)
      refine lv_if_eq (tgt := 30) hx hb dX12_trees_13 (by decide) (fun hcd => ?_) (fun hcd => ?_)
      · have h := cdP hcd h
        refine lv_iconst (v := (-1)) hx hb dX12_trees_30 (by decide) ?_
        exact ux_iretP hx hb hr h hP hD hS hlocks dX12_trees_31
      · have h := cdN hcd h
        refine lv_iload_n hx hb dX12_trees_16 rfl (lv_at hl 1 rfl) ?_
        refine lv_iload_n hx hb dX12_trees_17 rfl (lv_at hl 2 rfl) ?_
        refine lv_icmp_eq (tgt := 30) hx hb dX12_trees_18 (by decide) (fun hcd => ?_) (fun hcd => ?_)
        · have h := cdP hcd h
          refine lv_iconst (v := (-1)) hx hb dX12_trees_30 (by decide) ?_
          exact ux_iretP hx hb hr h hP hD hS hlocks dX12_trees_31
        · have h := cdN hcd h
          refine lv_iload_n hx hb dX12_trees_21 rfl (lv_at hl 3 rfl) ?_
          refine lv_iconst (v := 0) hx hb dX12_trees_22 (by decide) ?_
          refine lv_iconst (v := 1) hx hb dX12_trees_23 (by decide) ?_
          obtain ⟨r9, hf10, h⟩ := biS h
          refine ux_calli (va_runS (As := [.int x3, .int 0, .int 1]) (rest := []) ⟨hx, hb, hml, hown, hts⟩ (tX12_in l dC dI cy ad σ x3 0 1 H.size r9 hf10) (va_cwS 3 hts gX12_trees_X12_in rfl rfl rfl (by decide +kernel) ⟨Nat.le_of_ble_eq_true rfl, Nat.le_of_ble_eq_true rfl⟩) (wp_S hK hN hP hD) rfl rfl hl.1 rfl (lv_room (Nat.le_of_ble_eq_true rfl)) dX12_trees_24 ⟨Nat.le_of_ble_eq_true rfl, Nat.le_of_ble_eq_true rfl⟩) hD hS hA (fun H locs hP hD hS => ?_)
          refine lv_if_ne (tgt := 32) hx hb dX12_trees_27 (by decide) (fun hcd => ?_) (fun hcd => ?_)
          · have h := cdN hcd h
            refine lv_iload_n hx hb dX12_trees_32 rfl (lv_at hl 3 rfl) ?_
            refine lv_if_ne (tgt := 48) hx hb dX12_trees_33 (by decide) (fun hcd => ?_) (fun hcd => ?_)
            · have h := cdN hcd h
              refine lv_iconst (v := 0) hx hb dX12_trees_48 (by decide) ?_
              refine lv_istore (lv' := [(4, .int 0), (0, .ref (ad 0)), (1, .int x1), (2, .int x2), (3, .int x3)]) hx hb dX12_trees_49 hl (by decide) rfl (fun ls hl => ?_)
              have hl := lv_sub hl [1, 2, 3, 4, 0] (l' := [(0, .ref (ad 0)), (1, .int x1), (2, .int x2), (3, .int x3), (4, .int 0)]) rfl
              refine lv_iconst (v := 0) hx hb dX12_trees_51 (by decide) ?_
              refine lv_istore (lv' := [(5, .int 0), (0, .ref (ad 0)), (1, .int x1), (2, .int x2), (3, .int x3), (4, .int 0)]) hx hb dX12_trees_52 hl (by decide) rfl (fun ls hl => ?_)
              have hl := lv_sub hl [1, 2, 3, 4, 5, 0] (l' := [(0, .ref (ad 0)), (1, .int x1), (2, .int x2), (3, .int x3), (4, .int 0), (5, .int 0)]) rfl
              exact w54 FU σ x1 x2 0 0 H locs ls h hP hD hS (lv_sub hl [0, 1, 2, 4, 5] rfl)
            · have h := cdP hcd h
              refine lv_iconst (v := 1) hx hb dX12_trees_36 (by decide) ?_
              refine lv_aload_n hx hb dX12_trees_37 rfl (lv_at hl 0 rfl) ?_
              refine lv_iload_n hx hb dX12_trees_38 rfl (lv_at hl 1 rfl) ?_
              refine lv_iload_n hx hb dX12_trees_39 rfl (lv_at hl 2 rfl) ?_
              refine lv_iconst (v := 0) hx hb dX12_trees_40 (by decide) ?_
              refine lv_bipush (v := 8) hx hb dX12_trees_41 (by decide) ?_
              obtain ⟨r11, hf12, h⟩ := biS h
              refine ux_calli (va_runV (As := [.int x1, .int x2, .int 0, .int 8]) (rest := [.int 1]) ⟨hx, hb, hml, hown, hts⟩ (tX12_wordsBelow l dC dI cy ad σ x1 x2 0 8 H.size r11 hf12) (cwV 4 hts gX12_trees_X12_wordsBelow rfl rfl rfl (by decide +kernel) ⟨Nat.le_of_ble_eq_true rfl, Nat.le_of_ble_eq_true rfl⟩) (wp_V hK hN hP hD (va_recv hK hP (ci := 12) (q0 := 0) rfl (wG_of (Nat.le_of_ble_eq_true rfl) rfl))) rfl rfl hl.1 rfl (lv_room (Nat.le_of_ble_eq_true rfl)) dX12_trees_43 ⟨Nat.le_of_ble_eq_true rfl, Nat.le_of_ble_eq_true rfl⟩) hD hS hA (fun H locs hP hD hS => ?_)
              refine lv_iadd hx hb dX12_trees_46 ?_
              exact ux_iretP hx hb hr h hP hD hS hlocks dX12_trees_47
          · have h := cdP hcd h
            refine lv_iconst (v := (-1)) hx hb dX12_trees_30 (by decide) ?_
            exact ux_iretP hx hb hr h hP hD hS hlocks dX12_trees_31
  intro H locs ls h hP hD hS hl
  exact w0 σ a1 a2 a3 H locs ls h hP hD hS (lv_sub hl [0, 1, 2, 3] rfl)

set_option maxHeartbeats 4000000 in
set_option maxRecDepth 100000 in
theorem tX12_noon (l : Launch) (dC : Nat → ClassId) (dI : Nat → Nat → Nat) (cy : Nat → ClassId) (ad : Nat → Nat) (σ : S2) (a1 : Int32) (a2 : Int32) (a3 : Int32) (sz : Nat) (r0 : Int32) (h : fX12_noon σ a1 a2 a3 = some r0) : Met l yX12_noon wsX12_noon ({ frames := 3, cells := 0, slots := 0, locals := 66 }) (va_Pc [.ref (ad 0), .int a1, .int a2, .int a3] (wPre (dC, dI) cy (wG (cM cy ad) ad 40 σ) sz)) (va_Qi (fun (r : Int32) (_ : Unit) => r = r0) (fun (_ : Unit) t => wAt (dC, dI) (va_A (wG (cM cy ad) ad 40 σ) sz) (wG (cM cy ad) ad 40 σ) t) (va_A (wG (cM cy ad) ad 40 σ) sz)) 0 0 (va_A (wG (cM cy ad) ad 40 σ) sz) := by
  refine Met.ofW (cc := cX12_noon) (maxL := 6) (ret := (some .int)) (by decide) rfl ?_
  intro p e s m args below meth c s₁ B hml hv
  obtain ⟨rfl, hsz, hP, hK, hD0, hN⟩ := hv
  have hx := B.exec
  have hb := B.bytes
  have hr := B.returns
  have hts := atoms_spec (ws := wsX12_noon) B.pre
  have hown : s.vm.findClass RX12 = some m.cls := findClass_of_methodNamed B.named
  have hlocks := B.notSynchronized
  subst hsz
  have hD := hD0.self (sz := s.heap.size)
  generalize hAe : va_A (wG (cM cy ad) ad 40 σ) s.heap.size = A at hD ⊢
  have hA : ∀ q : Nat, s.heap.size ≤ q → A q := fun q h => by rw [← hAe]; exact Or.inr h
  have hS : va_S A s.heap s.heap [] := va_S.rf
  have hl := lv_entry ([.ref (ad 0), .int a1, .int a2, .int a3]) (n := 6) (Nat.le_of_ble_eq_true rfl)
  rw [lg_entry_eq]
  generalize (lg_sl ([.ref (ad 0), .int a1, .int a2, .int a3]) ++ List.replicate (6 - (lg_sl ([.ref (ad 0), .int a1, .int a2, .int a3])).length) Slot.unset).toArray = ls at hl ⊢
  have hl : lv_has ls 6 [(0, .ref (ad 0)), (1, .int a1), (2, .int a2), (3, .int a3)] := hl
  unfold fX12_noon at h
  clear hAe hD0
  suffices HH : ∀ (H : Heap) (locs : List Loc) (ls : Array Slot), fX12_noon_0 σ a1 a2 a3 = some r0 → va_P (dC, dI) vwCl (wG (cM cy ad) ad 40 σ) H → va_D A (wG (cM cy ad) ad 40 σ) → va_S A s.heap H locs → lv_has ls 6 [(0, .ref (ad 0)), (1, .int a1), (2, .int a2), (3, .int a3)] → W p l e (headSpec wsX12_noon ({ frames := 3, cells := 0, slots := 0, locals := 66 })).room s m (#[.ref (ad 0), .int a1, .int a2, .int a3]) below meth c H locs 0 0 (MQ below (va_Qi (fun (r : Int32) (_ : Unit) => r = r0) (fun (_ : Unit) t => wAt (dC, dI) A (wG (cM cy ad) ad 40 σ) t) A) (#[.ref (ad 0), .int a1, .int a2, .int a3]) s 0 0 A) (F0 m 0 ls []) from HH s.heap [] ls h hP hD hS hl
  have w46 : ∀ (n : Nat), ∀ (σ : S2) (x2 : Int32) (x3 : Int32) (x4 : Int32) (x5 : Int32) (H : Heap) (locs : List Loc) (ls : Array Slot), fX12_noon_46 n σ x2 x3 x4 x5 = some r0 → va_P (dC, dI) vwCl (wG (cM cy ad) ad 40 σ) H → va_D A (wG (cM cy ad) ad 40 σ) → va_S A s.heap H locs → lv_has ls 6 [(2, .int x2), (3, .int x3), (4, .int x4), (5, .int x5)] → W p l e (headSpec wsX12_noon ({ frames := 3, cells := 0, slots := 0, locals := 66 })).room s m (#[.ref (ad 0), .int a1, .int a2, .int a3]) below meth c H locs 0 0 (MQ below (va_Qi (fun (r : Int32) (_ : Unit) => r = r0) (fun (_ : Unit) t => wAt (dC, dI) A (wG (cM cy ad) ad 40 σ) t) A) (#[.ref (ad 0), .int a1, .int a2, .int a3]) s 0 0 A) (F0 m 46 ls []) := by
    intro n
    induction n with
    | zero => intro σ x2 x3 x4 x5 H locs ls h; cases h
    | succ n ih =>
    intro σ x2 x3 x4 x5 H locs ls h hP hD hS hl
    unfold fX12_noon_46 at h
    refine lv_iload hx hb dX12_noon_46 (lv_at hl 3 rfl) ?_
    refine lv_iload hx hb dX12_noon_48 (lv_at hl 2 rfl) ?_
    refine lv_icmp_gt (tgt := 75) hx hb dX12_noon_50 (by decide) (fun hcd => ?_) (fun hcd => ?_)
    · have h := cdP hcd h
      refine lv_bipush (v := (-2)) hx hb dX12_noon_75 (by decide) ?_
      exact ux_iretP hx hb hr h hP hD hS hlocks dX12_noon_77
    · have h := cdN hcd h
      refine lv_iload_n hx hb dX12_noon_53 rfl (lv_at hl 0 rfl) ?_
      refine lv_iload hx hb dX12_noon_54 (lv_at hl 3 rfl) ?_
      refine lv_iadd hx hb dX12_noon_56 ?_
      refine lv_iconst (v := 1) hx hb dX12_noon_57 (by decide) ?_
      refine lv_isub hx hb dX12_noon_58 ?_
      refine lv_iload hx hb dX12_noon_59 (lv_at hl 3 rfl) ?_
      obtain ⟨hz1, h⟩ := dzS h
      refine lv_idiv hx hb dX12_noon_61 hz1 ?_
      refine lv_iload_n hx hb dX12_noon_62 rfl (lv_at hl 1 rfl) ?_
      refine lv_icmp_gt (tgt := 69) hx hb dX12_noon_63 (by decide) (fun hcd => ?_) (fun hcd => ?_)
      · have h := cdP hcd h
        obtain ⟨v2, ev2⟩ : ∃ y : Int32, y = x5 + 1 := ⟨_, rfl⟩
        have h := nmS h ev2
        refine lv_iinc (v := v2) (lv' := [(5, .int v2), (2, .int x2), (3, .int x3), (4, .int x4)]) hx hb dX12_noon_69 hl (k := 3) rfl (by rw [ev2]; rfl) (by decide) rfl (fun ls hl => ?_)
        have hl := lv_sub hl [1, 2, 3, 0] (l' := [(2, .int x2), (3, .int x3), (4, .int x4), (5, .int v2)]) rfl
        refine lv_goto (tgt := 46) hx hb dX12_noon_72 (by decide) ?_
        exact ih σ x2 x3 x4 v2 H locs ls h hP hD hS hl
      · have h := cdN hcd h
        refine lv_iload hx hb dX12_noon_66 (lv_at hl 3 rfl) ?_
        exact ux_iretP hx hb hr h hP hD hS hlocks dX12_noon_68
  have w0 : ∀ (σ : S2) (x1 : Int32) (x2 : Int32) (x3 : Int32) (H : Heap) (locs : List Loc) (ls : Array Slot), fX12_noon_0 σ x1 x2 x3 = some r0 → va_P (dC, dI) vwCl (wG (cM cy ad) ad 40 σ) H → va_D A (wG (cM cy ad) ad 40 σ) → va_S A s.heap H locs → lv_has ls 6 [(0, .ref (ad 0)), (1, .int x1), (2, .int x2), (3, .int x3)] → W p l e (headSpec wsX12_noon ({ frames := 3, cells := 0, slots := 0, locals := 66 })).room s m (#[.ref (ad 0), .int a1, .int a2, .int a3]) below meth c H locs 0 0 (MQ below (va_Qi (fun (r : Int32) (_ : Unit) => r = r0) (fun (_ : Unit) t => wAt (dC, dI) A (wG (cM cy ad) ad 40 σ) t) A) (#[.ref (ad 0), .int a1, .int a2, .int a3]) s 0 0 A) (F0 m 0 ls []) := by
    intro σ x1 x2 x3 H locs ls h hP hD hS hl
    unfold fX12_noon_0 at h
    refine lv_aload_n hx hb dX12_noon_0 rfl (lv_at hl 0 rfl) ?_
    refine lv_iload_n hx hb dX12_noon_1 rfl (lv_at hl 1 rfl) ?_
    obtain ⟨r3, hf4, h⟩ := biS h
    refine ux_calli (va_runV (As := [.int x1]) (rest := []) ⟨hx, hb, hml, hown, hts⟩ (tX12_isTable l dC dI cy ad σ x1 H.size r3 hf4) (cwV 1 hts gX12_noon_X12_isTable rfl rfl rfl (by decide +kernel) ⟨Nat.le_of_ble_eq_true rfl, Nat.le_of_ble_eq_true rfl⟩) (wp_V hK hN hP hD (va_recv hK hP (ci := 12) (q0 := 0) rfl (wG_of (Nat.le_of_ble_eq_true rfl) rfl))) rfl rfl hl.1 rfl (lv_room (Nat.le_of_ble_eq_true rfl)) dX12_noon_2 ⟨Nat.le_of_ble_eq_true rfl, Nat.le_of_ble_eq_true rfl⟩) hD hS hA (fun H locs hP hD hS => ?_)
    refine lv_if_eq (tgt := 30) hx hb dX12_noon_5 (by decide) (fun hcd => ?_) (fun hcd => ?_)
    · have h := cdP hcd h
      refine lv_iconst (v := (-1)) hx hb dX12_noon_30 (by decide) ?_
      exact ux_iretP hx hb hr h hP hD hS hlocks dX12_noon_31
    · have h := cdN hcd h
      refine lv_iload_n hx hb dX12_noon_8 rfl (lv_at hl 2 rfl) ?_
      refine lv_iconst (v := 0) hx hb dX12_noon_9 (by decide) ?_
      refine lv_sipush (v := 9999) hx hb dX12_noon_10 (by decide) ?_
      obtain ⟨r5, hf6, h⟩ := biS h
      refine ux_calli (va_runS (As := [.int x2, .int 0, .int 9999]) (rest := []) ⟨hx, hb, hml, hown, hts⟩ (tX12_in l dC dI cy ad σ x2 0 9999 H.size r5 hf6) (va_cwS 3 hts gX12_noon_X12_in rfl rfl rfl (by decide +kernel) ⟨Nat.le_of_ble_eq_true rfl, Nat.le_of_ble_eq_true rfl⟩) (wp_S hK hN hP hD) rfl rfl hl.1 rfl (lv_room (Nat.le_of_ble_eq_true rfl)) dX12_noon_13 ⟨Nat.le_of_ble_eq_true rfl, Nat.le_of_ble_eq_true rfl⟩) hD hS hA (fun H locs hP hD hS => ?_)
      refine lv_if_eq (tgt := 30) hx hb dX12_noon_16 (by decide) (fun hcd => ?_) (fun hcd => ?_)
      · have h := cdP hcd h
        refine lv_iconst (v := (-1)) hx hb dX12_noon_30 (by decide) ?_
        exact ux_iretP hx hb hr h hP hD hS hlocks dX12_noon_31
      · have h := cdN hcd h
        refine lv_iload_n hx hb dX12_noon_19 rfl (lv_at hl 3 rfl) ?_
        refine lv_iconst (v := 0) hx hb dX12_noon_20 (by decide) ?_
        refine lv_sipush (v := 9999) hx hb dX12_noon_21 (by decide) ?_
        obtain ⟨r7, hf8, h⟩ := biS h
        refine ux_calli (va_runS (As := [.int x3, .int 0, .int 9999]) (rest := []) ⟨hx, hb, hml, hown, hts⟩ (tX12_in l dC dI cy ad σ x3 0 9999 H.size r7 hf8) (va_cwS 3 hts gX12_noon_X12_in rfl rfl rfl (by decide +kernel) ⟨Nat.le_of_ble_eq_true rfl, Nat.le_of_ble_eq_true rfl⟩) (wp_S hK hN hP hD) rfl rfl hl.1 rfl (lv_room (Nat.le_of_ble_eq_true rfl)) dX12_noon_24 ⟨Nat.le_of_ble_eq_true rfl, Nat.le_of_ble_eq_true rfl⟩) hD hS hA (fun H locs hP hD hS => ?_)
        refine lv_if_ne (tgt := 32) hx hb dX12_noon_27 (by decide) (fun hcd => ?_) (fun hcd => ?_)
        · have h := cdN hcd h
          refine lv_aload_n hx hb dX12_noon_32 rfl (lv_at hl 0 rfl) ?_
          refine ux_get (D := (dC, dI)) (ci := 12) (v := .ref (ad 8)) (C := RX12) (T := TX12) (M := 59) (fs := (oM ad (σ.1 0))) hx hb hts (fun _ h9 => List.mem_cons_of_mem _ (List.mem_append_right _ h9)) hown hK hP 0 (Nat.le_of_ble_eq_true rfl) rfl rfl 10 (by decide) (hts (.fieldLink RX12 32 "SeatsRoundModel" "tableOf" "[I") (List.mem_of_getElem? (i := 1) rfl)) (fun _ h9 => h9) rfl dX12_noon_33 ?_
          refine lv_iload_n hx hb dX12_noon_36 rfl (lv_at hl 1 rfl) ?_
          refine ux_iald hx hb hK hP 8 0 (Nat.le_of_ble_eq_true rfl) (cM_8 _ _ _ _) rfl h dX12_noon_37 (fun v9 h => ?_)
          obtain ⟨r10, hf11, h⟩ := biS h
          refine ux_calli (va_runS (As := [.int v9]) (rest := []) ⟨hx, hb, hml, hown, hts⟩ (tX12_ones l dC dI cy ad σ v9 H.size r10 hf11) (va_cwS 1 hts gX12_noon_X12_ones rfl rfl rfl (by decide +kernel) ⟨Nat.le_of_ble_eq_true rfl, Nat.le_of_ble_eq_true rfl⟩) (wp_S hK hN hP hD) rfl rfl hl.1 rfl (lv_room (Nat.le_of_ble_eq_true rfl)) dX12_noon_38 ⟨Nat.le_of_ble_eq_true rfl, Nat.le_of_ble_eq_true rfl⟩) hD hS hA (fun H locs hP hD hS => ?_)
          refine lv_istore (lv' := [(4, .int r10), (0, .ref (ad 0)), (1, .int x1), (2, .int x2), (3, .int x3)]) hx hb dX12_noon_41 hl (by decide) rfl (fun ls hl => ?_)
          have hl := lv_sub hl [1, 2, 3, 4, 0] (l' := [(0, .ref (ad 0)), (1, .int x1), (2, .int x2), (3, .int x3), (4, .int r10)]) rfl
          refine lv_iconst (v := 1) hx hb dX12_noon_43 (by decide) ?_
          refine lv_istore (lv' := [(5, .int 1), (0, .ref (ad 0)), (1, .int x1), (2, .int x2), (3, .int x3), (4, .int r10)]) hx hb dX12_noon_44 hl (by decide) rfl (fun ls hl => ?_)
          have hl := lv_sub hl [1, 2, 3, 4, 5, 0] (l' := [(0, .ref (ad 0)), (1, .int x1), (2, .int x2), (3, .int x3), (4, .int r10), (5, .int 1)]) rfl
          exact w46 FU σ x2 x3 r10 1 H locs ls h hP hD hS (lv_sub hl [2, 3, 4, 5] rfl)
        · have h := cdP hcd h
          refine lv_iconst (v := (-1)) hx hb dX12_noon_30 (by decide) ?_
          exact ux_iretP hx hb hr h hP hD hS hlocks dX12_noon_31
  intro H locs ls h hP hD hS hl
  exact w0 σ a1 a2 a3 H locs ls h hP hD hS (lv_sub hl [0, 1, 2, 3] rfl)

set_option maxHeartbeats 4000000 in
set_option maxRecDepth 100000 in
theorem tX12_lies (l : Launch) (dC : Nat → ClassId) (dI : Nat → Nat → Nat) (cy : Nat → ClassId) (ad : Nat → Nat) (σ : S2) (a1 : Int32) (a2 : Int32) (a3 : Int32) (a4 : Int32) (sz : Nat) (r0 : Int32) (h : fX12_lies σ a1 a2 a3 a4 = some r0) : Met l yX12_lies wsX12_lies ({ frames := 3, cells := 0, slots := 0, locals := 66 }) (va_Pc [.ref (ad 0), .int a1, .int a2, .int a3, .int a4] (wPre (dC, dI) cy (wG (cM cy ad) ad 40 σ) sz)) (va_Qi (fun (r : Int32) (_ : Unit) => r = r0) (fun (_ : Unit) t => wAt (dC, dI) (va_A (wG (cM cy ad) ad 40 σ) sz) (wG (cM cy ad) ad 40 σ) t) (va_A (wG (cM cy ad) ad 40 σ) sz)) 0 0 (va_A (wG (cM cy ad) ad 40 σ) sz) := by
  refine Met.ofW (cc := cX12_lies) (maxL := 6) (ret := (some .int)) (by decide) rfl ?_
  intro p e s m args below meth c s₁ B hml hv
  obtain ⟨rfl, hsz, hP, hK, hD0, hN⟩ := hv
  have hx := B.exec
  have hb := B.bytes
  have hr := B.returns
  have hts := atoms_spec (ws := wsX12_lies) B.pre
  have hown : s.vm.findClass RX12 = some m.cls := findClass_of_methodNamed B.named
  have hlocks := B.notSynchronized
  subst hsz
  have hD := hD0.self (sz := s.heap.size)
  generalize hAe : va_A (wG (cM cy ad) ad 40 σ) s.heap.size = A at hD ⊢
  have hA : ∀ q : Nat, s.heap.size ≤ q → A q := fun q h => by rw [← hAe]; exact Or.inr h
  have hS : va_S A s.heap s.heap [] := va_S.rf
  have hl := lv_entry ([.ref (ad 0), .int a1, .int a2, .int a3, .int a4]) (n := 6) (Nat.le_of_ble_eq_true rfl)
  rw [lg_entry_eq]
  generalize (lg_sl ([.ref (ad 0), .int a1, .int a2, .int a3, .int a4]) ++ List.replicate (6 - (lg_sl ([.ref (ad 0), .int a1, .int a2, .int a3, .int a4])).length) Slot.unset).toArray = ls at hl ⊢
  have hl : lv_has ls 6 [(0, .ref (ad 0)), (1, .int a1), (2, .int a2), (3, .int a3), (4, .int a4)] := hl
  unfold fX12_lies at h
  clear hAe hD0
  suffices HH : ∀ (H : Heap) (locs : List Loc) (ls : Array Slot), fX12_lies_0 σ a1 a2 a3 a4 = some r0 → va_P (dC, dI) vwCl (wG (cM cy ad) ad 40 σ) H → va_D A (wG (cM cy ad) ad 40 σ) → va_S A s.heap H locs → lv_has ls 6 [(0, .ref (ad 0)), (1, .int a1), (2, .int a2), (3, .int a3), (4, .int a4)] → W p l e (headSpec wsX12_lies ({ frames := 3, cells := 0, slots := 0, locals := 66 })).room s m (#[.ref (ad 0), .int a1, .int a2, .int a3, .int a4]) below meth c H locs 0 0 (MQ below (va_Qi (fun (r : Int32) (_ : Unit) => r = r0) (fun (_ : Unit) t => wAt (dC, dI) A (wG (cM cy ad) ad 40 σ) t) A) (#[.ref (ad 0), .int a1, .int a2, .int a3, .int a4]) s 0 0 A) (F0 m 0 ls []) from HH s.heap [] ls h hP hD hS hl
  have w75 : ∀ (σ : S2) (x1 : Int32) (x4 : Int32) (s0 : Int32) (H : Heap) (locs : List Loc) (ls : Array Slot), fX12_lies_75 σ x1 x4 s0 = some r0 → va_P (dC, dI) vwCl (wG (cM cy ad) ad 40 σ) H → va_D A (wG (cM cy ad) ad 40 σ) → va_S A s.heap H locs → lv_has ls 6 [(0, .ref (ad 0)), (1, .int x1), (4, .int x4)] → W p l e (headSpec wsX12_lies ({ frames := 3, cells := 0, slots := 0, locals := 66 })).room s m (#[.ref (ad 0), .int a1, .int a2, .int a3, .int a4]) below meth c H locs 0 0 (MQ below (va_Qi (fun (r : Int32) (_ : Unit) => r = r0) (fun (_ : Unit) t => wAt (dC, dI) A (wG (cM cy ad) ad 40 σ) t) A) (#[.ref (ad 0), .int a1, .int a2, .int a3, .int a4]) s 0 0 A) (F0 m 75 ls [.int s0]) := by
    intro σ x1 x4 s0 H locs ls h hP hD hS hl
    unfold fX12_lies_75 at h
    refine lv_istore (lv' := [(5, .int s0), (0, .ref (ad 0)), (1, .int x1), (4, .int x4)]) hx hb dX12_lies_75 hl (by decide) rfl (fun ls hl => ?_)
    have hl := lv_sub hl [1, 2, 3, 0] (l' := [(0, .ref (ad 0)), (1, .int x1), (4, .int x4), (5, .int s0)]) rfl
    refine lv_iload hx hb dX12_lies_77 (lv_at hl 2 rfl) ?_
    refine lv_if_ne (tgt := 87) hx hb dX12_lies_79 (by decide) (fun hcd => ?_) (fun hcd => ?_)
    · have h := cdN hcd h
      refine lv_iconst (v := 4) hx hb dX12_lies_87 (by decide) ?_
      refine lv_aload_n hx hb dX12_lies_88 rfl (lv_at hl 0 rfl) ?_
      refine ux_get (D := (dC, dI)) (ci := 12) (v := .ref (ad 4)) (C := RX12) (T := TX12) (M := 59) (fs := (oM ad (σ.1 0))) hx hb hts (fun _ h9 => List.mem_cons_of_mem _ (List.mem_append_right _ h9)) hown hK hP 0 (Nat.le_of_ble_eq_true rfl) rfl rfl 5 (by decide) (hts (.fieldLink RX12 19 "SeatsRoundModel" "strength" "[I") (List.mem_of_getElem? (i := 1) rfl)) (fun _ h9 => h9) rfl dX12_lies_89 ?_
      refine lv_iload_n hx hb dX12_lies_92 rfl (lv_at hl 1 rfl) ?_
      refine ux_iald hx hb hK hP 4 0 (Nat.le_of_ble_eq_true rfl) (cM_4 _ _ _ _) rfl h dX12_lies_93 (fun v1 h => ?_)
      refine lv_iload hx hb dX12_lies_94 (lv_at hl 3 rfl) ?_
      refine lv_isub hx hb dX12_lies_96 ?_
      refine lv_imul hx hb dX12_lies_97 ?_
      exact ux_iretP hx hb hr h hP hD hS hlocks dX12_lies_98
    · have h := cdP hcd h
      refine lv_iload hx hb dX12_lies_82 (lv_at hl 3 rfl) ?_
      refine lv_goto (tgt := 98) hx hb dX12_lies_84 (by decide) ?_
      exact ux_iretP hx hb hr h hP hD hS hlocks dX12_lies_98
  have w0 : ∀ (σ : S2) (x1 : Int32) (x2 : Int32) (x3 : Int32) (x4 : Int32) (H : Heap) (locs : List Loc) (ls : Array Slot), fX12_lies_0 σ x1 x2 x3 x4 = some r0 → va_P (dC, dI) vwCl (wG (cM cy ad) ad 40 σ) H → va_D A (wG (cM cy ad) ad 40 σ) → va_S A s.heap H locs → lv_has ls 6 [(0, .ref (ad 0)), (1, .int x1), (2, .int x2), (3, .int x3), (4, .int x4)] → W p l e (headSpec wsX12_lies ({ frames := 3, cells := 0, slots := 0, locals := 66 })).room s m (#[.ref (ad 0), .int a1, .int a2, .int a3, .int a4]) below meth c H locs 0 0 (MQ below (va_Qi (fun (r : Int32) (_ : Unit) => r = r0) (fun (_ : Unit) t => wAt (dC, dI) A (wG (cM cy ad) ad 40 σ) t) A) (#[.ref (ad 0), .int a1, .int a2, .int a3, .int a4]) s 0 0 A) (F0 m 0 ls []) := by
    intro σ x1 x2 x3 x4 H locs ls h hP hD hS hl
    unfold fX12_lies_0 at h
    refine lv_aload_n hx hb dX12_lies_0 rfl (lv_at hl 0 rfl) ?_
    refine lv_iload_n hx hb dX12_lies_1 rfl (lv_at hl 1 rfl) ?_
    obtain ⟨r2, hf3, h⟩ := biS h
    refine ux_calli (va_runV (As := [.int x1]) (rest := []) ⟨hx, hb, hml, hown, hts⟩ (tX12_isKeeper l dC dI cy ad σ x1 H.size r2 hf3) (cwV 1 hts gX12_lies_X12_isKeeper rfl rfl rfl (by decide +kernel) ⟨Nat.le_of_ble_eq_true rfl, Nat.le_of_ble_eq_true rfl⟩) (wp_V hK hN hP hD (va_recv hK hP (ci := 12) (q0 := 0) rfl (wG_of (Nat.le_of_ble_eq_true rfl) rfl))) rfl rfl hl.1 rfl (lv_room (Nat.le_of_ble_eq_true rfl)) dX12_lies_2 ⟨Nat.le_of_ble_eq_true rfl, Nat.le_of_ble_eq_true rfl⟩) hD hS hA (fun H locs hP hD hS => ?_)
    refine lv_if_eq (tgt := 43) hx hb dX12_lies_5 (by decide) (fun hcd => ?_) (fun hcd => ?_)
    · have h := cdP hcd h
      refine lv_iconst (v := (-1)) hx hb dX12_lies_43 (by decide) ?_
      exact ux_iretP hx hb hr h hP hD hS hlocks dX12_lies_44
    · have h := cdN hcd h
      refine lv_iload_n hx hb dX12_lies_8 rfl (lv_at hl 2 rfl) ?_
      refine lv_iconst (v := 0) hx hb dX12_lies_9 (by decide) ?_
      refine lv_bipush (v := 99) hx hb dX12_lies_10 (by decide) ?_
      obtain ⟨r4, hf5, h⟩ := biS h
      refine ux_calli (va_runS (As := [.int x2, .int 0, .int 99]) (rest := []) ⟨hx, hb, hml, hown, hts⟩ (tX12_in l dC dI cy ad σ x2 0 99 H.size r4 hf5) (va_cwS 3 hts gX12_lies_X12_in rfl rfl rfl (by decide +kernel) ⟨Nat.le_of_ble_eq_true rfl, Nat.le_of_ble_eq_true rfl⟩) (wp_S hK hN hP hD) rfl rfl hl.1 rfl (lv_room (Nat.le_of_ble_eq_true rfl)) dX12_lies_12 ⟨Nat.le_of_ble_eq_true rfl, Nat.le_of_ble_eq_true rfl⟩) hD hS hA (fun H locs hP hD hS => ?_)
      refine lv_if_eq (tgt := 43) hx hb dX12_lies_15 (by decide) (fun hcd => ?_) (fun hcd => ?_)
      · have h := cdP hcd h
        refine lv_iconst (v := (-1)) hx hb dX12_lies_43 (by decide) ?_
        exact ux_iretP hx hb hr h hP hD hS hlocks dX12_lies_44
      · have h := cdN hcd h
        refine lv_iload_n hx hb dX12_lies_18 rfl (lv_at hl 3 rfl) ?_
        refine lv_iconst (v := 1) hx hb dX12_lies_19 (by decide) ?_
        refine lv_bipush (v := 99) hx hb dX12_lies_20 (by decide) ?_
        obtain ⟨r6, hf7, h⟩ := biS h
        refine ux_calli (va_runS (As := [.int x3, .int 1, .int 99]) (rest := []) ⟨hx, hb, hml, hown, hts⟩ (tX12_in l dC dI cy ad σ x3 1 99 H.size r6 hf7) (va_cwS 3 hts gX12_lies_X12_in rfl rfl rfl (by decide +kernel) ⟨Nat.le_of_ble_eq_true rfl, Nat.le_of_ble_eq_true rfl⟩) (wp_S hK hN hP hD) rfl rfl hl.1 rfl (lv_room (Nat.le_of_ble_eq_true rfl)) dX12_lies_22 ⟨Nat.le_of_ble_eq_true rfl, Nat.le_of_ble_eq_true rfl⟩) hD hS hA (fun H locs hP hD hS => ?_)
        refine lv_if_eq (tgt := 43) hx hb dX12_lies_25 (by decide) (fun hcd => ?_) (fun hcd => ?_)
        · have h := cdP hcd h
          refine lv_iconst (v := (-1)) hx hb dX12_lies_43 (by decide) ?_
          exact ux_iretP hx hb hr h hP hD hS hlocks dX12_lies_44
        · have h := cdN hcd h
          refine lv_iload_n hx hb dX12_lies_28 rfl (lv_at hl 2 rfl) ?_
          refine lv_iload_n hx hb dX12_lies_29 rfl (lv_at hl 3 rfl) ?_
          refine lv_icmp_gt (tgt := 43) hx hb dX12_lies_30 (by decide) (fun hcd => ?_) (fun hcd => ?_)
          · have h := cdP hcd h
            refine lv_iconst (v := (-1)) hx hb dX12_lies_43 (by decide) ?_
            exact ux_iretP hx hb hr h hP hD hS hlocks dX12_lies_44
          · have h := cdN hcd h
            refine lv_iload hx hb dX12_lies_33 (lv_at hl 4 rfl) ?_
            refine lv_iconst (v := 0) hx hb dX12_lies_35 (by decide) ?_
            refine lv_iconst (v := 1) hx hb dX12_lies_36 (by decide) ?_
            obtain ⟨r8, hf9, h⟩ := biS h
            refine ux_calli (va_runS (As := [.int x4, .int 0, .int 1]) (rest := []) ⟨hx, hb, hml, hown, hts⟩ (tX12_in l dC dI cy ad σ x4 0 1 H.size r8 hf9) (va_cwS 3 hts gX12_lies_X12_in rfl rfl rfl (by decide +kernel) ⟨Nat.le_of_ble_eq_true rfl, Nat.le_of_ble_eq_true rfl⟩) (wp_S hK hN hP hD) rfl rfl hl.1 rfl (lv_room (Nat.le_of_ble_eq_true rfl)) dX12_lies_37 ⟨Nat.le_of_ble_eq_true rfl, Nat.le_of_ble_eq_true rfl⟩) hD hS hA (fun H locs hP hD hS => ?_)
            refine lv_if_ne (tgt := 45) hx hb dX12_lies_40 (by decide) (fun hcd => ?_) (fun hcd => ?_)
            · have h := cdN hcd h
              refine lv_aload_n hx hb dX12_lies_45 rfl (lv_at hl 0 rfl) ?_
              refine ux_get (D := (dC, dI)) (ci := 12) (v := .ref (ad 4)) (C := RX12) (T := TX12) (M := 59) (fs := (oM ad (σ.1 0))) hx hb hts (fun _ h9 => List.mem_cons_of_mem _ (List.mem_append_right _ h9)) hown hK hP 0 (Nat.le_of_ble_eq_true rfl) rfl rfl 5 (by decide) (hts (.fieldLink RX12 19 "SeatsRoundModel" "strength" "[I") (List.mem_of_getElem? (i := 1) rfl)) (fun _ h9 => h9) rfl dX12_lies_46 ?_
              refine lv_iload_n hx hb dX12_lies_49 rfl (lv_at hl 1 rfl) ?_
              refine ux_iald hx hb hK hP 4 0 (Nat.le_of_ble_eq_true rfl) (cM_4 _ _ _ _) rfl h dX12_lies_50 (fun v10 h => ?_)
              refine lv_iload_n hx hb dX12_lies_51 rfl (lv_at hl 3 rfl) ?_
              refine lv_iload_n hx hb dX12_lies_52 rfl (lv_at hl 2 rfl) ?_
              refine lv_isub hx hb dX12_lies_53 ?_
              refine lv_imul hx hb dX12_lies_54 ?_
              refine lv_iload_n hx hb dX12_lies_55 rfl (lv_at hl 3 rfl) ?_
              refine lv_iadd hx hb dX12_lies_56 ?_
              refine lv_iconst (v := 1) hx hb dX12_lies_57 (by decide) ?_
              refine lv_isub hx hb dX12_lies_58 ?_
              change W _ _ _ _ _ _ _ _ _ _ _ _ _ _ _ (F0 m 59 ls [.int (((v10 * (x3 - x2)) + x3) - 1)])
              refine lv_iload_n hx hb dX12_lies_59 rfl (lv_at hl 3 rfl) ?_
              obtain ⟨hz11, h⟩ := dzS h
              refine lv_idiv hx hb dX12_lies_60 hz11 ?_
              refine lv_topi (fun v12 ev12 => ?_)
              have h := nmS h ev12
              refine lv_istore (lv' := [(5, .int v12), (0, .ref (ad 0)), (1, .int x1), (2, .int x2), (3, .int x3), (4, .int x4)]) hx hb dX12_lies_61 hl (by decide) rfl (fun ls hl => ?_)
              have hl := lv_sub hl [1, 2, 3, 4, 5, 0] (l' := [(0, .ref (ad 0)), (1, .int x1), (2, .int x2), (3, .int x3), (4, .int x4), (5, .int v12)]) rfl
              refine lv_iload hx hb dX12_lies_63 (lv_at hl 5 rfl) ?_
              refine lv_iconst (v := 1) hx hb dX12_lies_65 (by decide) ?_
              refine lv_icmp_ge (tgt := 73) hx hb dX12_lies_66 (by decide) (fun hcd => ?_) (fun hcd => ?_)
              · have h := cdP hcd h
                refine lv_iload hx hb dX12_lies_73 (lv_at hl 5 rfl) ?_
                exact w75 σ x1 x4 v12 H locs ls h hP hD hS (lv_sub hl [0, 1, 4] rfl)
              · have h := cdN hcd h
                refine lv_iconst (v := 1) hx hb dX12_lies_69 (by decide) ?_
                refine lv_goto (tgt := 75) hx hb dX12_lies_70 (by decide) ?_
                exact w75 σ x1 x4 1 H locs ls h hP hD hS (lv_sub hl [0, 1, 4] rfl)
            · have h := cdP hcd h
              refine lv_iconst (v := (-1)) hx hb dX12_lies_43 (by decide) ?_
              exact ux_iretP hx hb hr h hP hD hS hlocks dX12_lies_44
  intro H locs ls h hP hD hS hl
  exact w0 σ a1 a2 a3 a4 H locs ls h hP hD hS (lv_sub hl [0, 1, 2, 3, 4] rfl)

set_option maxHeartbeats 4000000 in
set_option maxRecDepth 100000 in
theorem tX12_isComing (l : Launch) (dC : Nat → ClassId) (dI : Nat → Nat → Nat) (cy : Nat → ClassId) (ad : Nat → Nat) (σ : S2) (a1 : Int32) (sz : Nat) (r0 : Int32) (h : fX12_isComing σ a1 = some r0) : Met l yX12_isComing wsX12_isComing ({ frames := 1, cells := 0, slots := 0, locals := 23 }) (va_Pc [.ref (ad 0), .int a1] (wPre (dC, dI) cy (wG (cM cy ad) ad 40 σ) sz)) (va_Qi (fun (r : Int32) (_ : Unit) => r = r0) (fun (_ : Unit) t => wAt (dC, dI) (va_A (wG (cM cy ad) ad 40 σ) sz) (wG (cM cy ad) ad 40 σ) t) (va_A (wG (cM cy ad) ad 40 σ) sz)) 0 0 (va_A (wG (cM cy ad) ad 40 σ) sz) := by
  refine Met.ofW (cc := cX12_isComing) (maxL := 3) (ret := (some .boolean)) (by decide) rfl ?_
  intro p e s m args below meth c s₁ B hml hv
  obtain ⟨rfl, hsz, hP, hK, hD0, hN⟩ := hv
  have hx := B.exec
  have hb := B.bytes
  have hr := B.returns
  have hts := atoms_spec (ws := wsX12_isComing) B.pre
  have hown : s.vm.findClass RX12 = some m.cls := findClass_of_methodNamed B.named
  have hlocks := B.notSynchronized
  subst hsz
  have hD := hD0.self (sz := s.heap.size)
  generalize hAe : va_A (wG (cM cy ad) ad 40 σ) s.heap.size = A at hD ⊢
  have hA : ∀ q : Nat, s.heap.size ≤ q → A q := fun q h => by rw [← hAe]; exact Or.inr h
  have hS : va_S A s.heap s.heap [] := va_S.rf
  have hl := lv_entry ([.ref (ad 0), .int a1]) (n := 3) (Nat.le_of_ble_eq_true rfl)
  rw [lg_entry_eq]
  generalize (lg_sl ([.ref (ad 0), .int a1]) ++ List.replicate (3 - (lg_sl ([.ref (ad 0), .int a1])).length) Slot.unset).toArray = ls at hl ⊢
  have hl : lv_has ls 3 [(0, .ref (ad 0)), (1, .int a1)] := hl
  unfold fX12_isComing at h
  clear hAe hD0
  suffices HH : ∀ (H : Heap) (locs : List Loc) (ls : Array Slot), fX12_isComing_0 σ a1 = some r0 → va_P (dC, dI) vwCl (wG (cM cy ad) ad 40 σ) H → va_D A (wG (cM cy ad) ad 40 σ) → va_S A s.heap H locs → lv_has ls 3 [(0, .ref (ad 0)), (1, .int a1)] → W p l e (headSpec wsX12_isComing ({ frames := 1, cells := 0, slots := 0, locals := 23 })).room s m (#[.ref (ad 0), .int a1]) below meth c H locs 0 0 (MQ below (va_Qi (fun (r : Int32) (_ : Unit) => r = r0) (fun (_ : Unit) t => wAt (dC, dI) A (wG (cM cy ad) ad 40 σ) t) A) (#[.ref (ad 0), .int a1]) s 0 0 A) (F0 m 0 ls []) from HH s.heap [] ls h hP hD hS hl
  have w2 : ∀ (n : Nat), ∀ (σ : S2) (x1 : Int32) (x2 : Int32) (H : Heap) (locs : List Loc) (ls : Array Slot), fX12_isComing_2 n σ x1 x2 = some r0 → va_P (dC, dI) vwCl (wG (cM cy ad) ad 40 σ) H → va_D A (wG (cM cy ad) ad 40 σ) → va_S A s.heap H locs → lv_has ls 3 [(0, .ref (ad 0)), (1, .int x1), (2, .int x2)] → W p l e (headSpec wsX12_isComing ({ frames := 1, cells := 0, slots := 0, locals := 23 })).room s m (#[.ref (ad 0), .int a1]) below meth c H locs 0 0 (MQ below (va_Qi (fun (r : Int32) (_ : Unit) => r = r0) (fun (_ : Unit) t => wAt (dC, dI) A (wG (cM cy ad) ad 40 σ) t) A) (#[.ref (ad 0), .int a1]) s 0 0 A) (F0 m 2 ls []) := by
    intro n
    induction n with
    | zero => intro σ x1 x2 H locs ls h; cases h
    | succ n ih =>
    intro σ x1 x2 H locs ls h hP hD hS hl
    unfold fX12_isComing_2 at h
    refine lv_iload_n hx hb dX12_isComing_2 rfl (lv_at hl 2 rfl) ?_
    refine lv_aload_n hx hb dX12_isComing_3 rfl (lv_at hl 0 rfl) ?_
    refine ux_get (D := (dC, dI)) (ci := 12) (v := .int (σ.1 0 30)) (C := RX12) (T := TX12) (M := 59) (fs := (oM ad (σ.1 0))) hx hb hts (fun _ h9 => List.mem_cons_of_mem _ (List.mem_append_right _ h9)) hown hK hP 0 (Nat.le_of_ble_eq_true rfl) rfl rfl 30 (by decide) (hts (.fieldLink RX12 310 "SeatsRoundModel" "comers" "I") (List.mem_of_getElem? (i := 1) rfl)) (fun _ h9 => h9) rfl dX12_isComing_4 ?_
    refine lv_icmp_ge (tgt := 28) hx hb dX12_isComing_7 (by decide) (fun hcd => ?_) (fun hcd => ?_)
    · have h := cdP hcd h
      refine lv_iconst (v := 0) hx hb dX12_isComing_28 (by decide) ?_
      exact ux_zretP hx hb hr rfl h hP hD hS hlocks dX12_isComing_29
    · have h := cdN hcd h
      refine lv_aload_n hx hb dX12_isComing_10 rfl (lv_at hl 0 rfl) ?_
      refine ux_get (D := (dC, dI)) (ci := 12) (v := .ref (ad 26)) (C := RX12) (T := TX12) (M := 59) (fs := (oM ad (σ.1 0))) hx hb hts (fun _ h9 => List.mem_cons_of_mem _ (List.mem_append_right _ h9)) hown hK hP 0 (Nat.le_of_ble_eq_true rfl) rfl rfl 31 (by decide) (hts (.fieldLink RX12 86 "SeatsRoundModel" "comer" "[I") (List.mem_of_getElem? (i := 2) rfl)) (fun _ h9 => h9) rfl dX12_isComing_11 ?_
      refine lv_iload_n hx hb dX12_isComing_14 rfl (lv_at hl 2 rfl) ?_
      refine ux_iald hx hb hK hP 26 0 (Nat.le_of_ble_eq_true rfl) (cM_26 _ _ _ _) rfl h dX12_isComing_15 (fun v1 h => ?_)
      refine lv_iload_n hx hb dX12_isComing_16 rfl (lv_at hl 1 rfl) ?_
      refine lv_icmp_ne (tgt := 22) hx hb dX12_isComing_17 (by decide) (fun hcd => ?_) (fun hcd => ?_)
      · have h := cdN hcd h
        obtain ⟨v2, ev2⟩ : ∃ y : Int32, y = x2 + 1 := ⟨_, rfl⟩
        have h := nmS h ev2
        refine lv_iinc (v := v2) (lv' := [(2, .int v2), (0, .ref (ad 0)), (1, .int x1)]) hx hb dX12_isComing_22 hl (k := 2) rfl (by rw [ev2]; rfl) (by decide) rfl (fun ls hl => ?_)
        have hl := lv_sub hl [1, 2, 0] (l' := [(0, .ref (ad 0)), (1, .int x1), (2, .int v2)]) rfl
        refine lv_goto (tgt := 2) hx hb dX12_isComing_25 (by decide) ?_
        exact ih σ x1 v2 H locs ls h hP hD hS hl
      · have h := cdP hcd h
        refine lv_iconst (v := 1) hx hb dX12_isComing_20 (by decide) ?_
        exact ux_zretP hx hb hr rfl h hP hD hS hlocks dX12_isComing_21
  have w0 : ∀ (σ : S2) (x1 : Int32) (H : Heap) (locs : List Loc) (ls : Array Slot), fX12_isComing_0 σ x1 = some r0 → va_P (dC, dI) vwCl (wG (cM cy ad) ad 40 σ) H → va_D A (wG (cM cy ad) ad 40 σ) → va_S A s.heap H locs → lv_has ls 3 [(0, .ref (ad 0)), (1, .int x1)] → W p l e (headSpec wsX12_isComing ({ frames := 1, cells := 0, slots := 0, locals := 23 })).room s m (#[.ref (ad 0), .int a1]) below meth c H locs 0 0 (MQ below (va_Qi (fun (r : Int32) (_ : Unit) => r = r0) (fun (_ : Unit) t => wAt (dC, dI) A (wG (cM cy ad) ad 40 σ) t) A) (#[.ref (ad 0), .int a1]) s 0 0 A) (F0 m 0 ls []) := by
    intro σ x1 H locs ls h hP hD hS hl
    unfold fX12_isComing_0 at h
    refine lv_iconst (v := 0) hx hb dX12_isComing_0 (by decide) ?_
    refine lv_istore_n (lv' := [(2, .int 0), (0, .ref (ad 0)), (1, .int x1)]) hx hb dX12_isComing_1 rfl hl (by decide) rfl (fun ls hl => ?_)
    have hl := lv_sub hl [1, 2, 0] (l' := [(0, .ref (ad 0)), (1, .int x1), (2, .int 0)]) rfl
    exact w2 FU σ x1 0 H locs ls h hP hD hS hl
  intro H locs ls h hP hD hS hl
  exact w0 σ a1 H locs ls h hP hD hS (lv_sub hl [0, 1] rfl)

set_option maxHeartbeats 4000000 in
set_option maxRecDepth 100000 in
theorem tX12_comes (l : Launch) (dC : Nat → ClassId) (dI : Nat → Nat → Nat) (cy : Nat → ClassId) (ad : Nat → Nat) (σ : S2) (a1 : Int32) (sz : Nat) (r0 : Int32) (σ9 : S2) (h : fX12_comes σ a1 = some (r0, σ9)) : Met l yX12_comes wsX12_comes ({ frames := 3, cells := 0, slots := 0, locals := 66 }) (va_Pc [.ref (ad 0), .int a1] (wPre (dC, dI) cy (wG (cM cy ad) ad 40 σ) sz)) (va_Qi (fun (r : Int32) (_ : Unit) => r = r0) (fun (_ : Unit) t => wAt (dC, dI) (va_A (wG (cM cy ad) ad 40 σ) sz) (wG (cM cy ad) ad 40 σ9) t) (va_A (wG (cM cy ad) ad 40 σ) sz)) 0 0 (va_A (wG (cM cy ad) ad 40 σ) sz) := by
  refine Met.ofW (cc := cX12_comes) (maxL := 2) (ret := (some .int)) (by decide) rfl ?_
  intro p e s m args below meth c s₁ B hml hv
  obtain ⟨rfl, hsz, hP, hK, hD0, hN⟩ := hv
  have hx := B.exec
  have hb := B.bytes
  have hr := B.returns
  have hts := atoms_spec (ws := wsX12_comes) B.pre
  have hown : s.vm.findClass RX12 = some m.cls := findClass_of_methodNamed B.named
  have hlocks := B.notSynchronized
  subst hsz
  have hD := hD0.self (sz := s.heap.size)
  generalize hAe : va_A (wG (cM cy ad) ad 40 σ) s.heap.size = A at hD ⊢
  have hA : ∀ q : Nat, s.heap.size ≤ q → A q := fun q h => by rw [← hAe]; exact Or.inr h
  have hS : va_S A s.heap s.heap [] := va_S.rf
  have hl := lv_entry ([.ref (ad 0), .int a1]) (n := 2) (Nat.le_of_ble_eq_true rfl)
  rw [lg_entry_eq]
  generalize (lg_sl ([.ref (ad 0), .int a1]) ++ List.replicate (2 - (lg_sl ([.ref (ad 0), .int a1])).length) Slot.unset).toArray = ls at hl ⊢
  have hl : lv_has ls 2 [(0, .ref (ad 0)), (1, .int a1)] := hl
  unfold fX12_comes at h
  clear hAe hD0
  suffices HH : ∀ (H : Heap) (locs : List Loc) (ls : Array Slot), fX12_comes_0 σ a1 = some (r0, σ9) → va_P (dC, dI) vwCl (wG (cM cy ad) ad 40 σ) H → va_D A (wG (cM cy ad) ad 40 σ) → va_S A s.heap H locs → lv_has ls 2 [(0, .ref (ad 0)), (1, .int a1)] → W p l e (headSpec wsX12_comes ({ frames := 3, cells := 0, slots := 0, locals := 66 })).room s m (#[.ref (ad 0), .int a1]) below meth c H locs 0 0 (MQ below (va_Qi (fun (r : Int32) (_ : Unit) => r = r0) (fun (_ : Unit) t => wAt (dC, dI) A (wG (cM cy ad) ad 40 σ9) t) A) (#[.ref (ad 0), .int a1]) s 0 0 A) (F0 m 0 ls []) from HH s.heap [] ls h hP hD hS hl
  have w0 : ∀ (σ : S2) (x1 : Int32) (H : Heap) (locs : List Loc) (ls : Array Slot), fX12_comes_0 σ x1 = some (r0, σ9) → va_P (dC, dI) vwCl (wG (cM cy ad) ad 40 σ) H → va_D A (wG (cM cy ad) ad 40 σ) → va_S A s.heap H locs → lv_has ls 2 [(0, .ref (ad 0)), (1, .int x1)] → W p l e (headSpec wsX12_comes ({ frames := 3, cells := 0, slots := 0, locals := 66 })).room s m (#[.ref (ad 0), .int a1]) below meth c H locs 0 0 (MQ below (va_Qi (fun (r : Int32) (_ : Unit) => r = r0) (fun (_ : Unit) t => wAt (dC, dI) A (wG (cM cy ad) ad 40 σ9) t) A) (#[.ref (ad 0), .int a1]) s 0 0 A) (F0 m 0 ls []) := by
    intro σ x1 H locs ls h hP hD hS hl
    unfold fX12_comes_0 at h
    refine lv_aload_n hx hb dX12_comes_0 rfl (lv_at hl 0 rfl) ?_
    refine lv_iload_n hx hb dX12_comes_1 rfl (lv_at hl 1 rfl) ?_
    obtain ⟨r1, hf2, h⟩ := biS h
    refine ux_calli (va_runV (As := [.int x1]) (rest := []) ⟨hx, hb, hml, hown, hts⟩ (tX12_isKeeper l dC dI cy ad σ x1 H.size r1 hf2) (cwV 1 hts gX12_comes_X12_isKeeper rfl rfl rfl (by decide +kernel) ⟨Nat.le_of_ble_eq_true rfl, Nat.le_of_ble_eq_true rfl⟩) (wp_V hK hN hP hD (va_recv hK hP (ci := 12) (q0 := 0) rfl (wG_of (Nat.le_of_ble_eq_true rfl) rfl))) rfl rfl hl.1 rfl (lv_room (Nat.le_of_ble_eq_true rfl)) dX12_comes_2 ⟨Nat.le_of_ble_eq_true rfl, Nat.le_of_ble_eq_true rfl⟩) hD hS hA (fun H locs hP hD hS => ?_)
    refine lv_if_eq (tgt := 16) hx hb dX12_comes_5 (by decide) (fun hcd => ?_) (fun hcd => ?_)
    · have h := cdP hcd h
      refine lv_iconst (v := (-1)) hx hb dX12_comes_16 (by decide) ?_
      exact ux_iret hx hb hr h hP hD hS hlocks dX12_comes_17
    · have h := cdN hcd h
      refine lv_aload_n hx hb dX12_comes_8 rfl (lv_at hl 0 rfl) ?_
      refine lv_iload_n hx hb dX12_comes_9 rfl (lv_at hl 1 rfl) ?_
      obtain ⟨r3, hf4, h⟩ := biS h
      refine ux_calli (va_runV (As := [.int x1]) (rest := []) ⟨hx, hb, hml, hown, hts⟩ (tX12_isComing l dC dI cy ad σ x1 H.size r3 hf4) (cwV 1 hts gX12_comes_X12_isComing rfl rfl rfl (by decide +kernel) ⟨Nat.le_of_ble_eq_true rfl, Nat.le_of_ble_eq_true rfl⟩) (wp_V hK hN hP hD (va_recv hK hP (ci := 12) (q0 := 0) rfl (wG_of (Nat.le_of_ble_eq_true rfl) rfl))) rfl rfl hl.1 rfl (lv_room (Nat.le_of_ble_eq_true rfl)) dX12_comes_10 ⟨Nat.le_of_ble_eq_true rfl, Nat.le_of_ble_eq_true rfl⟩) hD hS hA (fun H locs hP hD hS => ?_)
      refine lv_if_eq (tgt := 18) hx hb dX12_comes_13 (by decide) (fun hcd => ?_) (fun hcd => ?_)
      · have h := cdP hcd h
        refine lv_aload_n hx hb dX12_comes_18 rfl (lv_at hl 0 rfl) ?_
        refine ux_get (D := (dC, dI)) (ci := 12) (v := .int (σ.1 0 30)) (C := RX12) (T := TX12) (M := 59) (fs := (oM ad (σ.1 0))) hx hb hts (fun _ h9 => List.mem_cons_of_mem _ (List.mem_append_right _ h9)) hown hK hP 0 (Nat.le_of_ble_eq_true rfl) rfl rfl 30 (by decide) (hts (.fieldLink RX12 310 "SeatsRoundModel" "comers" "I") (List.mem_of_getElem? (i := 1) rfl)) (fun _ h9 => h9) rfl dX12_comes_19 ?_
        refine lv_iconst (v := 5) hx hb dX12_comes_22 (by decide) ?_
        refine lv_icmp_ne (tgt := 29) hx hb dX12_comes_23 (by decide) (fun hcd => ?_) (fun hcd => ?_)
        · have h := cdN hcd h
          refine lv_aload_n hx hb dX12_comes_29 rfl (lv_at hl 0 rfl) ?_
          refine ux_get (D := (dC, dI)) (ci := 12) (v := .ref (ad 26)) (C := RX12) (T := TX12) (M := 59) (fs := (oM ad (σ.1 0))) hx hb hts (fun _ h9 => List.mem_cons_of_mem _ (List.mem_append_right _ h9)) hown hK hP 0 (Nat.le_of_ble_eq_true rfl) rfl rfl 31 (by decide) (hts (.fieldLink RX12 86 "SeatsRoundModel" "comer" "[I") (List.mem_of_getElem? (i := 2) rfl)) (fun _ h9 => h9) rfl dX12_comes_30 ?_
          refine lv_aload_n hx hb dX12_comes_33 rfl (lv_at hl 0 rfl) ?_
          refine ux_get (D := (dC, dI)) (ci := 12) (v := .int (σ.1 0 30)) (C := RX12) (T := TX12) (M := 59) (fs := (oM ad (σ.1 0))) hx hb hts (fun _ h9 => List.mem_cons_of_mem _ (List.mem_append_right _ h9)) hown hK hP 0 (Nat.le_of_ble_eq_true rfl) rfl rfl 30 (by decide) (hts (.fieldLink RX12 310 "SeatsRoundModel" "comers" "I") (List.mem_of_getElem? (i := 1) rfl)) (fun _ h9 => h9) rfl dX12_comes_34 ?_
          refine lv_iload_n hx hb dX12_comes_37 rfl (lv_at hl 1 rfl) ?_
          refine ux_iast hx hb hK hP hD hS 26 0 (Nat.le_of_ble_eq_true rfl) (fun _ => (cM_26 _ _ _ _)) rfl h dX12_comes_38 (fun σ5 H locs h hP hD hS => ?_)
          refine lv_aload_n hx hb dX12_comes_39 rfl (lv_at hl 0 rfl) ?_
          refine lv_dup hx hb dX12_comes_40 rfl ?_
          refine ux_get (D := (dC, dI)) (ci := 12) (v := .int (σ5.1 0 30)) (C := RX12) (T := TX12) (M := 59) (fs := (oM ad (σ5.1 0))) hx hb hts (fun _ h9 => List.mem_cons_of_mem _ (List.mem_append_right _ h9)) hown hK hP 0 (Nat.le_of_ble_eq_true rfl) rfl rfl 30 (by decide) (hts (.fieldLink RX12 310 "SeatsRoundModel" "comers" "I") (List.mem_of_getElem? (i := 1) rfl)) (fun _ h9 => h9) rfl dX12_comes_41 ?_
          refine lv_iconst (v := 1) hx hb dX12_comes_44 (by decide) ?_
          refine lv_iadd hx hb dX12_comes_45 ?_
          refine ux_put (D := (dC, dI)) (ci := 12) (C := RX12) (T := TX12) (M := 59) (fs := (oM ad (σ5.1 0))) hx hb hts (fun _ h9 => List.mem_cons_of_mem _ (List.mem_append_right _ h9)) tyX12 tyX12_ok nmX12 hown hK hP hD hS 0 (Nat.le_of_ble_eq_true rfl) rfl rfl 30 (by decide) (hts (.fieldLink RX12 310 "SeatsRoundModel" "comers" "I") (List.mem_of_getElem? (i := 1) rfl)) (fun _ h9 => h9) rfl (tyX12_ok 30 (by decide)) rfl rfl (Nat.le_of_ble_eq_true rfl) (oM_set_30 _ _ _ _ _) h dX12_comes_46 (fun σ6 H locs h hP hD hS => ?_)
          refine lv_aload_n hx hb dX12_comes_49 rfl (lv_at hl 0 rfl) ?_
          refine ux_get (D := (dC, dI)) (ci := 12) (v := .int (σ6.1 0 30)) (C := RX12) (T := TX12) (M := 59) (fs := (oM ad (σ6.1 0))) hx hb hts (fun _ h9 => List.mem_cons_of_mem _ (List.mem_append_right _ h9)) hown hK hP 0 (Nat.le_of_ble_eq_true rfl) rfl rfl 30 (by decide) (hts (.fieldLink RX12 310 "SeatsRoundModel" "comers" "I") (List.mem_of_getElem? (i := 1) rfl)) (fun _ h9 => h9) rfl dX12_comes_50 ?_
          exact ux_iret hx hb hr h hP hD hS hlocks dX12_comes_53
        · have h := cdP hcd h
          refine lv_bipush (v := (-3)) hx hb dX12_comes_26 (by decide) ?_
          exact ux_iret hx hb hr h hP hD hS hlocks dX12_comes_28
      · have h := cdN hcd h
        refine lv_iconst (v := (-1)) hx hb dX12_comes_16 (by decide) ?_
        exact ux_iret hx hb hr h hP hD hS hlocks dX12_comes_17
  intro H locs ls h hP hD hS hl
  exact w0 σ a1 H locs ls h hP hD hS (lv_sub hl [0, 1] rfl)

set_option maxHeartbeats 4000000 in
set_option maxRecDepth 100000 in
theorem tX12_tries (l : Launch) (dC : Nat → ClassId) (dI : Nat → Nat → Nat) (cy : Nat → ClassId) (ad : Nat → Nat) (σ : S2) (a1 : Int32) (a2 : Int32) (a3 : Int32) (sz : Nat) (r0 : Unit) (σ9 : S2) (h : fX12_tries σ a1 a2 a3 = some (r0, σ9)) : Met l yX12_tries wsX12_tries ({ frames := 29, cells := 0, slots := 0, locals := 665 }) (va_Pc [.ref (ad 0), .int a1, .int a2, .int a3] (wPre (dC, dI) cy (wG (cM cy ad) ad 40 σ) sz)) (va_Qv (fun (_ : Unit) => True) (fun (_ : Unit) t => wAt (dC, dI) (va_A (wG (cM cy ad) ad 40 σ) sz) (wG (cM cy ad) ad 40 σ9) t) (va_A (wG (cM cy ad) ad 40 σ) sz)) 0 0 (va_A (wG (cM cy ad) ad 40 σ) sz) := by
  refine Met.ofW (cc := cX12_tries) (maxL := 5) (ret := none) (by decide) rfl ?_
  intro p e s m args below meth c s₁ B hml hv
  obtain ⟨rfl, hsz, hP, hK, hD0, hN⟩ := hv
  have hx := B.exec
  have hb := B.bytes
  have hr := B.returns
  have hts := atoms_spec (ws := wsX12_tries) B.pre
  have hown : s.vm.findClass RX12 = some m.cls := findClass_of_methodNamed B.named
  have hlocks := B.notSynchronized
  subst hsz
  have hD := hD0.self (sz := s.heap.size)
  generalize hAe : va_A (wG (cM cy ad) ad 40 σ) s.heap.size = A at hD ⊢
  have hA : ∀ q : Nat, s.heap.size ≤ q → A q := fun q h => by rw [← hAe]; exact Or.inr h
  have hS : va_S A s.heap s.heap [] := va_S.rf
  have hl := lv_entry ([.ref (ad 0), .int a1, .int a2, .int a3]) (n := 5) (Nat.le_of_ble_eq_true rfl)
  rw [lg_entry_eq]
  generalize (lg_sl ([.ref (ad 0), .int a1, .int a2, .int a3]) ++ List.replicate (5 - (lg_sl ([.ref (ad 0), .int a1, .int a2, .int a3])).length) Slot.unset).toArray = ls at hl ⊢
  have hl : lv_has ls 5 [(0, .ref (ad 0)), (1, .int a1), (2, .int a2), (3, .int a3)] := hl
  unfold fX12_tries at h
  clear hAe hD0
  suffices HH : ∀ (H : Heap) (locs : List Loc) (ls : Array Slot), fX12_tries_0 σ a1 a2 a3 = some (r0, σ9) → va_P (dC, dI) vwCl (wG (cM cy ad) ad 40 σ) H → va_D A (wG (cM cy ad) ad 40 σ) → va_S A s.heap H locs → lv_has ls 5 [(0, .ref (ad 0)), (1, .int a1), (2, .int a2), (3, .int a3)] → W p l e (headSpec wsX12_tries ({ frames := 29, cells := 0, slots := 0, locals := 665 })).room s m (#[.ref (ad 0), .int a1, .int a2, .int a3]) below meth c H locs 0 0 (MQ below (va_Qv (fun (_ : Unit) => True) (fun (_ : Unit) t => wAt (dC, dI) A (wG (cM cy ad) ad 40 σ9) t) A) (#[.ref (ad 0), .int a1, .int a2, .int a3]) s 0 0 A) (F0 m 0 ls []) from HH s.heap [] ls h hP hD hS hl
  have w162 : ∀ (k71 : S2 → Int32 → Int32 → Option (Unit × S2)) (hk71 : ∀ (σ : S2) (x1 : Int32) (x4 : Int32) (H : Heap) (locs : List Loc) (ls : Array Slot), k71 σ x1 x4 = some (r0, σ9) → va_P (dC, dI) vwCl (wG (cM cy ad) ad 40 σ) H → va_D A (wG (cM cy ad) ad 40 σ) → va_S A s.heap H locs → lv_has ls 5 [(0, .ref (ad 0)), (1, .int x1), (4, .int x4)] → W p l e (headSpec wsX12_tries ({ frames := 29, cells := 0, slots := 0, locals := 665 })).room s m (#[.ref (ad 0), .int a1, .int a2, .int a3]) below meth c H locs 0 0 (MQ below (va_Qv (fun (_ : Unit) => True) (fun (_ : Unit) t => wAt (dC, dI) A (wG (cM cy ad) ad 40 σ9) t) A) (#[.ref (ad 0), .int a1, .int a2, .int a3]) s 0 0 A) (F0 m 71 ls [])) , ∀ (σ : S2) (x1 : Int32) (x4 : Int32) (s0 : Int32) (s1 : Int32) (H : Heap) (locs : List Loc) (ls : Array Slot), fX12_tries_162 k71 σ x1 x4 s0 s1 = some (r0, σ9) → va_P (dC, dI) vwCl (wG (cM cy ad) ad 40 σ) H → va_D A (wG (cM cy ad) ad 40 σ) → va_S A s.heap H locs → lv_has ls 5 [(0, .ref (ad 0)), (1, .int x1), (4, .int x4)] → W p l e (headSpec wsX12_tries ({ frames := 29, cells := 0, slots := 0, locals := 665 })).room s m (#[.ref (ad 0), .int a1, .int a2, .int a3]) below meth c H locs 0 0 (MQ below (va_Qv (fun (_ : Unit) => True) (fun (_ : Unit) t => wAt (dC, dI) A (wG (cM cy ad) ad 40 σ9) t) A) (#[.ref (ad 0), .int a1, .int a2, .int a3]) s 0 0 A) (F0 m 162 ls [.int s0, .int s1, .ref (ad 16)]) := by
    intro k71 hk71 σ x1 x4 s0 s1 H locs ls h hP hD hS hl
    unfold fX12_tries_162 at h
    refine ux_iast hx hb hK hP hD hS 16 0 (Nat.le_of_ble_eq_true rfl) (fun _ => (cM_16 _ _ _ _)) rfl h dX12_tries_162 (fun σ1 H locs h hP hD hS => ?_)
    obtain ⟨v2, ev2⟩ : ∃ y : Int32, y = x4 + 1 := ⟨_, rfl⟩
    have h := nmS h ev2
    refine lv_iinc (v := v2) (lv' := [(4, .int v2), (0, .ref (ad 0)), (1, .int x1)]) hx hb dX12_tries_163 hl (k := 2) rfl (by rw [ev2]; rfl) (by decide) rfl (fun ls hl => ?_)
    have hl := lv_sub hl [1, 2, 0] (l' := [(0, .ref (ad 0)), (1, .int x1), (4, .int v2)]) rfl
    refine lv_goto (tgt := 71) hx hb dX12_tries_166 (by decide) ?_
    exact hk71 σ1 x1 v2 H locs ls h hP hD hS hl
  have w120 : ∀ (k71 : S2 → Int32 → Int32 → Option (Unit × S2)) (hk71 : ∀ (σ : S2) (x1 : Int32) (x4 : Int32) (H : Heap) (locs : List Loc) (ls : Array Slot), k71 σ x1 x4 = some (r0, σ9) → va_P (dC, dI) vwCl (wG (cM cy ad) ad 40 σ) H → va_D A (wG (cM cy ad) ad 40 σ) → va_S A s.heap H locs → lv_has ls 5 [(0, .ref (ad 0)), (1, .int x1), (4, .int x4)] → W p l e (headSpec wsX12_tries ({ frames := 29, cells := 0, slots := 0, locals := 665 })).room s m (#[.ref (ad 0), .int a1, .int a2, .int a3]) below meth c H locs 0 0 (MQ below (va_Qv (fun (_ : Unit) => True) (fun (_ : Unit) t => wAt (dC, dI) A (wG (cM cy ad) ad 40 σ9) t) A) (#[.ref (ad 0), .int a1, .int a2, .int a3]) s 0 0 A) (F0 m 71 ls [])) , ∀ (σ : S2) (x1 : Int32) (x4 : Int32) (s0 : Int32) (s1 : Int32) (H : Heap) (locs : List Loc) (ls : Array Slot), fX12_tries_120 k71 σ x1 x4 s0 s1 = some (r0, σ9) → va_P (dC, dI) vwCl (wG (cM cy ad) ad 40 σ) H → va_D A (wG (cM cy ad) ad 40 σ) → va_S A s.heap H locs → lv_has ls 5 [(0, .ref (ad 0)), (1, .int x1), (4, .int x4)] → W p l e (headSpec wsX12_tries ({ frames := 29, cells := 0, slots := 0, locals := 665 })).room s m (#[.ref (ad 0), .int a1, .int a2, .int a3]) below meth c H locs 0 0 (MQ below (va_Qv (fun (_ : Unit) => True) (fun (_ : Unit) t => wAt (dC, dI) A (wG (cM cy ad) ad 40 σ9) t) A) (#[.ref (ad 0), .int a1, .int a2, .int a3]) s 0 0 A) (F0 m 120 ls [.int s0, .int s1, .ref (ad 15)]) := by
    intro k71 hk71 σ x1 x4 s0 s1 H locs ls h hP hD hS hl
    unfold fX12_tries_120 at h
    refine ux_iast hx hb hK hP hD hS 15 0 (Nat.le_of_ble_eq_true rfl) (fun _ => (cM_15 _ _ _ _)) rfl h dX12_tries_120 (fun σ3 H locs h hP hD hS => ?_)
    refine lv_aload_n hx hb dX12_tries_121 rfl (lv_at hl 0 rfl) ?_
    refine ux_get (D := (dC, dI)) (ci := 12) (v := .ref (ad 16)) (C := RX12) (T := TX12) (M := 59) (fs := (oM ad (σ3.1 0))) hx hb hts (fun _ h9 => List.mem_cons_of_mem _ (List.mem_append_right _ h9)) hown hK hP 0 (Nat.le_of_ble_eq_true rfl) rfl rfl 18 (by decide) (hts (.fieldLink RX12 56 "SeatsRoundModel" "streetIn" "[I") (List.mem_of_getElem? (i := 7) rfl)) (fun _ h9 => h9) rfl dX12_tries_122 ?_
    refine lv_bipush (v := 120) hx hb dX12_tries_125 (by decide) ?_
    refine lv_iload hx hb dX12_tries_127 (lv_at hl 2 rfl) ?_
    refine lv_iadd hx hb dX12_tries_129 ?_
    refine lv_aload_n hx hb dX12_tries_130 rfl (lv_at hl 0 rfl) ?_
    refine lv_iload_n hx hb dX12_tries_131 rfl (lv_at hl 1 rfl) ?_
    refine lv_iload hx hb dX12_tries_132 (lv_at hl 2 rfl) ?_
    change W _ _ _ _ _ _ _ _ _ _ _ _ _ _ _ (F0 m 134 ls [.int x4, .int x1, .ref (ad 0), .int (120 + x4), .ref (ad 16)])
    obtain ⟨r4, hf5, h⟩ := biS h
    refine ux_calli (va_runV (As := [.int x1, .int x4]) (rest := [.int (120 + x4), .ref (ad 16)]) ⟨hx, hb, hml, hown, hts⟩ (tX12_isIn l dC dI cy ad σ3 x1 x4 H.size r4 hf5) (cwV 2 hts gX12_tries_X12_isIn rfl rfl rfl (by decide +kernel) ⟨Nat.le_of_ble_eq_true rfl, Nat.le_of_ble_eq_true rfl⟩) (wp_V hK hN hP hD (va_recv hK hP (ci := 12) (q0 := 0) rfl (wG_of (Nat.le_of_ble_eq_true rfl) rfl))) rfl rfl hl.1 rfl (lv_room (Nat.le_of_ble_eq_true rfl)) dX12_tries_134 ⟨Nat.le_of_ble_eq_true rfl, Nat.le_of_ble_eq_true rfl⟩) hD hS hA (fun H locs hP hD hS => ?_)
    refine lv_if_eq (tgt := 155) hx hb dX12_tries_137 (by decide) (fun hcd => ?_) (fun hcd => ?_)
    · have h := cdP hcd h
      refine lv_aload_n hx hb dX12_tries_155 rfl (lv_at hl 0 rfl) ?_
      refine ux_get (D := (dC, dI)) (ci := 12) (v := .ref (ad 3)) (C := RX12) (T := TX12) (M := 59) (fs := (oM ad (σ3.1 0))) hx hb hts (fun _ h9 => List.mem_cons_of_mem _ (List.mem_append_right _ h9)) hown hK hP 0 (Nat.le_of_ble_eq_true rfl) rfl rfl 4 (by decide) (hts (.fieldLink RX12 16 "SeatsRoundModel" "street" "[I") (List.mem_of_getElem? (i := 8) rfl)) (fun _ h9 => h9) rfl dX12_tries_156 ?_
      refine lv_iload hx hb dX12_tries_159 (lv_at hl 2 rfl) ?_
      refine ux_iald hx hb hK hP 3 0 (Nat.le_of_ble_eq_true rfl) (cM_3 _ _ _ _) rfl h dX12_tries_161 (fun v6 h => ?_)
      exact w162 _ hk71 σ3 x1 x4 v6 (120 + x4) H locs ls h hP hD hS hl
    · have h := cdN hcd h
      refine lv_aload_n hx hb dX12_tries_140 rfl (lv_at hl 0 rfl) ?_
      refine ux_get (D := (dC, dI)) (ci := 12) (v := .ref (ad 16)) (C := RX12) (T := TX12) (M := 59) (fs := (oM ad (σ3.1 0))) hx hb hts (fun _ h9 => List.mem_cons_of_mem _ (List.mem_append_right _ h9)) hown hK hP 0 (Nat.le_of_ble_eq_true rfl) rfl rfl 18 (by decide) (hts (.fieldLink RX12 56 "SeatsRoundModel" "streetIn" "[I") (List.mem_of_getElem? (i := 7) rfl)) (fun _ h9 => h9) rfl dX12_tries_141 ?_
      refine lv_bipush (v := 12) hx hb dX12_tries_144 (by decide) ?_
      refine lv_iload_n hx hb dX12_tries_146 rfl (lv_at hl 1 rfl) ?_
      refine lv_imul hx hb dX12_tries_147 ?_
      refine lv_iload hx hb dX12_tries_148 (lv_at hl 2 rfl) ?_
      refine lv_iadd hx hb dX12_tries_150 ?_
      refine ux_iald hx hb hK hP 16 0 (Nat.le_of_ble_eq_true rfl) (cM_16 _ _ _ _) rfl h dX12_tries_151 (fun v7 h => ?_)
      change W _ _ _ _ _ _ _ _ _ _ _ _ _ _ _ (F0 m 152 ls [.int v7, .int (120 + x4), .ref (ad 16)])
      refine lv_goto (tgt := 162) hx hb dX12_tries_152 (by decide) ?_
      exact w162 _ hk71 σ3 x1 x4 v7 (120 + x4) H locs ls h hP hD hS hl
  have w71 : ∀ (n : Nat), ∀ (σ : S2) (x1 : Int32) (x4 : Int32) (H : Heap) (locs : List Loc) (ls : Array Slot), fX12_tries_71 n σ x1 x4 = some (r0, σ9) → va_P (dC, dI) vwCl (wG (cM cy ad) ad 40 σ) H → va_D A (wG (cM cy ad) ad 40 σ) → va_S A s.heap H locs → lv_has ls 5 [(0, .ref (ad 0)), (1, .int x1), (4, .int x4)] → W p l e (headSpec wsX12_tries ({ frames := 29, cells := 0, slots := 0, locals := 665 })).room s m (#[.ref (ad 0), .int a1, .int a2, .int a3]) below meth c H locs 0 0 (MQ below (va_Qv (fun (_ : Unit) => True) (fun (_ : Unit) t => wAt (dC, dI) A (wG (cM cy ad) ad 40 σ9) t) A) (#[.ref (ad 0), .int a1, .int a2, .int a3]) s 0 0 A) (F0 m 71 ls []) := by
    intro n
    induction n with
    | zero => intro σ x1 x4 H locs ls h; cases h
    | succ n ih =>
    intro σ x1 x4 H locs ls h hP hD hS hl
    unfold fX12_tries_71 at h
    refine lv_iload hx hb dX12_tries_71 (lv_at hl 2 rfl) ?_
    refine lv_aload_n hx hb dX12_tries_73 rfl (lv_at hl 0 rfl) ?_
    refine ux_get (D := (dC, dI)) (ci := 12) (v := .int (σ.1 0 3)) (C := RX12) (T := TX12) (M := 59) (fs := (oM ad (σ.1 0))) hx hb hts (fun _ h9 => List.mem_cons_of_mem _ (List.mem_append_right _ h9)) hown hK hP 0 (Nat.le_of_ble_eq_true rfl) rfl rfl 3 (by decide) (hts (.fieldLink RX12 140 "SeatsRoundModel" "keepers" "I") (List.mem_of_getElem? (i := 5) rfl)) (fun _ h9 => h9) rfl dX12_tries_74 ?_
    refine lv_icmp_ge (tgt := 169) hx hb dX12_tries_77 (by decide) (fun hcd => ?_) (fun hcd => ?_)
    · have h := cdP hcd h
      refine lv_aload_n hx hb dX12_tries_169 rfl (lv_at hl 0 rfl) ?_
      refine lv_bipush (v := 10) hx hb dX12_tries_170 (by decide) ?_
      obtain ⟨r8, σ9, hf10, h⟩ := bsS h
      refine ux_callv (va_runV (As := [.int 10]) (rest := []) ⟨hx, hb, hml, hown, hts⟩ (tX12_numbers l dC dI cy ad σ 10 H.size r8 σ9 hf10) (cwV 1 hts gX12_tries_X12_numbers rfl rfl rfl (by decide +kernel) ⟨Nat.le_of_ble_eq_true rfl, Nat.le_of_ble_eq_true rfl⟩) (wp_V hK hN hP hD (va_recv hK hP (ci := 12) (q0 := 0) rfl (wG_of (Nat.le_of_ble_eq_true rfl) rfl))) rfl rfl hl.1 rfl (lv_room (Nat.le_of_ble_eq_true rfl)) dX12_tries_172 ⟨Nat.le_of_ble_eq_true rfl, Nat.le_of_ble_eq_true rfl⟩) hD hS hA (fun H locs hP hD hS => ?_)
      refine lv_aload_n hx hb dX12_tries_175 rfl (lv_at hl 0 rfl) ?_
      refine lv_bipush (v := 10) hx hb dX12_tries_176 (by decide) ?_
      obtain ⟨r11, σ12, hf13, h⟩ := bsS h
      refine ux_calli (va_runV (As := [.int 10]) (rest := []) ⟨hx, hb, hml, hown, hts⟩ (tX12_reads l dC dI cy ad σ9 10 H.size r11 σ12 hf13) (cwV 1 hts gX12_tries_X12_reads rfl rfl rfl (by decide +kernel) ⟨Nat.le_of_ble_eq_true rfl, Nat.le_of_ble_eq_true rfl⟩) (wp_V hK hN hP hD (va_recv hK hP (ci := 12) (q0 := 0) rfl (wG_of (Nat.le_of_ble_eq_true rfl) rfl))) rfl rfl hl.1 rfl (lv_room (Nat.le_of_ble_eq_true rfl)) dX12_tries_178 ⟨Nat.le_of_ble_eq_true rfl, Nat.le_of_ble_eq_true rfl⟩) hD hS hA (fun H locs hP hD hS => ?_)
      refine lv_pop hx hb dX12_tries_181 rfl ?_
      refine lv_aload_n hx hb dX12_tries_182 rfl (lv_at hl 0 rfl) ?_
      refine lv_bipush (v := 10) hx hb dX12_tries_183 (by decide) ?_
      obtain ⟨r14, σ15, hf16, h⟩ := bsS h
      refine ux_callv (va_runV (As := [.int 10]) (rest := []) ⟨hx, hb, hml, hown, hts⟩ (tX12_sits l dC dI cy ad σ12 10 H.size r14 σ15 hf16) (cwV 1 hts gX12_tries_X12_sits rfl rfl rfl (by decide +kernel) ⟨Nat.le_of_ble_eq_true rfl, Nat.le_of_ble_eq_true rfl⟩) (wp_V hK hN hP hD (va_recv hK hP (ci := 12) (q0 := 0) rfl (wG_of (Nat.le_of_ble_eq_true rfl) rfl))) rfl rfl hl.1 rfl (lv_room (Nat.le_of_ble_eq_true rfl)) dX12_tries_185 ⟨Nat.le_of_ble_eq_true rfl, Nat.le_of_ble_eq_true rfl⟩) hD hS hA (fun H locs hP hD hS => ?_)
      exact ux_vret hx hb hr h hP hD hS hlocks dX12_tries_188
    · have h := cdN hcd h
      refine lv_aload_n hx hb dX12_tries_80 rfl (lv_at hl 0 rfl) ?_
      refine ux_get (D := (dC, dI)) (ci := 12) (v := .ref (ad 15)) (C := RX12) (T := TX12) (M := 59) (fs := (oM ad (σ.1 0))) hx hb hts (fun _ h9 => List.mem_cons_of_mem _ (List.mem_append_right _ h9)) hown hK hP 0 (Nat.le_of_ble_eq_true rfl) rfl rfl 17 (by decide) (hts (.fieldLink RX12 53 "SeatsRoundModel" "counts" "[I") (List.mem_of_getElem? (i := 6) rfl)) (fun _ h9 => h9) rfl dX12_tries_81 ?_
      refine lv_bipush (v := 120) hx hb dX12_tries_84 (by decide) ?_
      refine lv_iload hx hb dX12_tries_86 (lv_at hl 2 rfl) ?_
      refine lv_iadd hx hb dX12_tries_88 ?_
      refine lv_aload_n hx hb dX12_tries_89 rfl (lv_at hl 0 rfl) ?_
      refine lv_iload_n hx hb dX12_tries_90 rfl (lv_at hl 1 rfl) ?_
      refine lv_iload hx hb dX12_tries_91 (lv_at hl 2 rfl) ?_
      change W _ _ _ _ _ _ _ _ _ _ _ _ _ _ _ (F0 m 93 ls [.int x4, .int x1, .ref (ad 0), .int (120 + x4), .ref (ad 15)])
      obtain ⟨r17, hf18, h⟩ := biS h
      refine ux_calli (va_runV (As := [.int x1, .int x4]) (rest := [.int (120 + x4), .ref (ad 15)]) ⟨hx, hb, hml, hown, hts⟩ (tX12_isIn l dC dI cy ad σ x1 x4 H.size r17 hf18) (cwV 2 hts gX12_tries_X12_isIn rfl rfl rfl (by decide +kernel) ⟨Nat.le_of_ble_eq_true rfl, Nat.le_of_ble_eq_true rfl⟩) (wp_V hK hN hP hD (va_recv hK hP (ci := 12) (q0 := 0) rfl (wG_of (Nat.le_of_ble_eq_true rfl) rfl))) rfl rfl hl.1 rfl (lv_room (Nat.le_of_ble_eq_true rfl)) dX12_tries_93 ⟨Nat.le_of_ble_eq_true rfl, Nat.le_of_ble_eq_true rfl⟩) hD hS hA (fun H locs hP hD hS => ?_)
      refine lv_if_eq (tgt := 114) hx hb dX12_tries_96 (by decide) (fun hcd => ?_) (fun hcd => ?_)
      · have h := cdP hcd h
        refine lv_aload_n hx hb dX12_tries_114 rfl (lv_at hl 0 rfl) ?_
        refine lv_iload hx hb dX12_tries_115 (lv_at hl 2 rfl) ?_
        obtain ⟨r19, hf20, h⟩ := biS h
        refine ux_calli (va_runV (As := [.int x4]) (rest := [.int (120 + x4), .ref (ad 15)]) ⟨hx, hb, hml, hown, hts⟩ (tX12_countsNow l dC dI cy ad σ x4 H.size r19 hf20) (cwV 1 hts gX12_tries_X12_countsNow rfl rfl rfl (by decide +kernel) ⟨Nat.le_of_ble_eq_true rfl, Nat.le_of_ble_eq_true rfl⟩) (wp_V hK hN hP hD (va_recv hK hP (ci := 12) (q0 := 0) rfl (wG_of (Nat.le_of_ble_eq_true rfl) rfl))) rfl rfl hl.1 rfl (lv_room (Nat.le_of_ble_eq_true rfl)) dX12_tries_117 ⟨Nat.le_of_ble_eq_true rfl, Nat.le_of_ble_eq_true rfl⟩) hD hS hA (fun H locs hP hD hS => ?_)
        exact w120 _ ih σ x1 x4 r19 (120 + x4) H locs ls h hP hD hS hl
      · have h := cdN hcd h
        refine lv_aload_n hx hb dX12_tries_99 rfl (lv_at hl 0 rfl) ?_
        refine ux_get (D := (dC, dI)) (ci := 12) (v := .ref (ad 15)) (C := RX12) (T := TX12) (M := 59) (fs := (oM ad (σ.1 0))) hx hb hts (fun _ h9 => List.mem_cons_of_mem _ (List.mem_append_right _ h9)) hown hK hP 0 (Nat.le_of_ble_eq_true rfl) rfl rfl 17 (by decide) (hts (.fieldLink RX12 53 "SeatsRoundModel" "counts" "[I") (List.mem_of_getElem? (i := 6) rfl)) (fun _ h9 => h9) rfl dX12_tries_100 ?_
        refine lv_bipush (v := 12) hx hb dX12_tries_103 (by decide) ?_
        refine lv_iload_n hx hb dX12_tries_105 rfl (lv_at hl 1 rfl) ?_
        refine lv_imul hx hb dX12_tries_106 ?_
        refine lv_iload hx hb dX12_tries_107 (lv_at hl 2 rfl) ?_
        refine lv_iadd hx hb dX12_tries_109 ?_
        refine ux_iald hx hb hK hP 15 0 (Nat.le_of_ble_eq_true rfl) (cM_15 _ _ _ _) rfl h dX12_tries_110 (fun v21 h => ?_)
        change W _ _ _ _ _ _ _ _ _ _ _ _ _ _ _ (F0 m 111 ls [.int v21, .int (120 + x4), .ref (ad 15)])
        refine lv_goto (tgt := 120) hx hb dX12_tries_111 (by decide) ?_
        exact w120 _ ih σ x1 x4 v21 (120 + x4) H locs ls h hP hD hS hl
  have w32 : ∀ (n : Nat), ∀ (σ : S2) (x1 : Int32) (x4 : Int32) (H : Heap) (locs : List Loc) (ls : Array Slot), fX12_tries_32 n σ x1 x4 = some (r0, σ9) → va_P (dC, dI) vwCl (wG (cM cy ad) ad 40 σ) H → va_D A (wG (cM cy ad) ad 40 σ) → va_S A s.heap H locs → lv_has ls 5 [(0, .ref (ad 0)), (1, .int x1), (4, .int x4)] → W p l e (headSpec wsX12_tries ({ frames := 29, cells := 0, slots := 0, locals := 665 })).room s m (#[.ref (ad 0), .int a1, .int a2, .int a3]) below meth c H locs 0 0 (MQ below (va_Qv (fun (_ : Unit) => True) (fun (_ : Unit) t => wAt (dC, dI) A (wG (cM cy ad) ad 40 σ9) t) A) (#[.ref (ad 0), .int a1, .int a2, .int a3]) s 0 0 A) (F0 m 32 ls []) := by
    intro n
    induction n with
    | zero => intro σ x1 x4 H locs ls h; cases h
    | succ n ih =>
    intro σ x1 x4 H locs ls h hP hD hS hl
    unfold fX12_tries_32 at h
    refine lv_iload hx hb dX12_tries_32 (lv_at hl 2 rfl) ?_
    refine lv_bipush (v := 80) hx hb dX12_tries_34 (by decide) ?_
    refine lv_icmp_ge (tgt := 68) hx hb dX12_tries_36 (by decide) (fun hcd => ?_) (fun hcd => ?_)
    · have h := cdP hcd h
      refine lv_iconst (v := 0) hx hb dX12_tries_68 (by decide) ?_
      refine lv_istore (lv' := [(4, .int 0), (0, .ref (ad 0)), (1, .int x1)]) hx hb dX12_tries_69 hl (by decide) rfl (fun ls hl => ?_)
      have hl := lv_sub hl [1, 2, 0] (l' := [(0, .ref (ad 0)), (1, .int x1), (4, .int 0)]) rfl
      exact w71 FU σ x1 0 H locs ls h hP hD hS hl
    · have h := cdN hcd h
      refine lv_aload_n hx hb dX12_tries_39 rfl (lv_at hl 0 rfl) ?_
      refine ux_get (D := (dC, dI)) (ci := 12) (v := .ref (ad 14)) (C := RX12) (T := TX12) (M := 59) (fs := (oM ad (σ.1 0))) hx hb hts (fun _ h9 => List.mem_cons_of_mem _ (List.mem_append_right _ h9)) hown hK hP 0 (Nat.le_of_ble_eq_true rfl) rfl rfl 16 (by decide) (hts (.fieldLink RX12 50 "SeatsRoundModel" "lawByte" "[I") (List.mem_of_getElem? (i := 4) rfl)) (fun _ h9 => h9) rfl dX12_tries_40 ?_
      refine lv_sipush (v := 800) hx hb dX12_tries_43 (by decide) ?_
      refine lv_iload hx hb dX12_tries_46 (lv_at hl 2 rfl) ?_
      refine lv_iadd hx hb dX12_tries_48 ?_
      refine lv_aload_n hx hb dX12_tries_49 rfl (lv_at hl 0 rfl) ?_
      refine ux_get (D := (dC, dI)) (ci := 12) (v := .ref (ad 14)) (C := RX12) (T := TX12) (M := 59) (fs := (oM ad (σ.1 0))) hx hb hts (fun _ h9 => List.mem_cons_of_mem _ (List.mem_append_right _ h9)) hown hK hP 0 (Nat.le_of_ble_eq_true rfl) rfl rfl 16 (by decide) (hts (.fieldLink RX12 50 "SeatsRoundModel" "lawByte" "[I") (List.mem_of_getElem? (i := 4) rfl)) (fun _ h9 => h9) rfl dX12_tries_50 ?_
      refine lv_bipush (v := 80) hx hb dX12_tries_53 (by decide) ?_
      change W _ _ _ _ _ _ _ _ _ _ _ _ _ _ _ (F0 m 55 ls [.int 80, .ref (ad 14), .int (800 + x4), .ref (ad 14)])
      refine lv_iload_n hx hb dX12_tries_55 rfl (lv_at hl 1 rfl) ?_
      refine lv_imul hx hb dX12_tries_56 ?_
      refine lv_iload hx hb dX12_tries_57 (lv_at hl 2 rfl) ?_
      refine lv_iadd hx hb dX12_tries_59 ?_
      refine ux_iald hx hb hK hP 14 0 (Nat.le_of_ble_eq_true rfl) (cM_14 _ _ _ _) rfl h dX12_tries_60 (fun v22 h => ?_)
      refine ux_iast hx hb hK hP hD hS 14 0 (Nat.le_of_ble_eq_true rfl) (fun _ => (cM_14 _ _ _ _)) rfl h dX12_tries_61 (fun σ23 H locs h hP hD hS => ?_)
      obtain ⟨v24, ev24⟩ : ∃ y : Int32, y = x4 + 1 := ⟨_, rfl⟩
      have h := nmS h ev24
      refine lv_iinc (v := v24) (lv' := [(4, .int v24), (0, .ref (ad 0)), (1, .int x1)]) hx hb dX12_tries_62 hl (k := 2) rfl (by rw [ev24]; rfl) (by decide) rfl (fun ls hl => ?_)
      have hl := lv_sub hl [1, 2, 0] (l' := [(0, .ref (ad 0)), (1, .int x1), (4, .int v24)]) rfl
      refine lv_goto (tgt := 32) hx hb dX12_tries_65 (by decide) ?_
      exact ih σ23 x1 v24 H locs ls h hP hD hS hl
  have w0 : ∀ (σ : S2) (x1 : Int32) (x2 : Int32) (x3 : Int32) (H : Heap) (locs : List Loc) (ls : Array Slot), fX12_tries_0 σ x1 x2 x3 = some (r0, σ9) → va_P (dC, dI) vwCl (wG (cM cy ad) ad 40 σ) H → va_D A (wG (cM cy ad) ad 40 σ) → va_S A s.heap H locs → lv_has ls 5 [(0, .ref (ad 0)), (1, .int x1), (2, .int x2), (3, .int x3)] → W p l e (headSpec wsX12_tries ({ frames := 29, cells := 0, slots := 0, locals := 665 })).room s m (#[.ref (ad 0), .int a1, .int a2, .int a3]) below meth c H locs 0 0 (MQ below (va_Qv (fun (_ : Unit) => True) (fun (_ : Unit) t => wAt (dC, dI) A (wG (cM cy ad) ad 40 σ9) t) A) (#[.ref (ad 0), .int a1, .int a2, .int a3]) s 0 0 A) (F0 m 0 ls []) := by
    intro σ x1 x2 x3 H locs ls h hP hD hS hl
    unfold fX12_tries_0 at h
    refine lv_aload_n hx hb dX12_tries_0 rfl (lv_at hl 0 rfl) ?_
    refine ux_get (D := (dC, dI)) (ci := 12) (v := .ref (ad 8)) (C := RX12) (T := TX12) (M := 59) (fs := (oM ad (σ.1 0))) hx hb hts (fun _ h9 => List.mem_cons_of_mem _ (List.mem_append_right _ h9)) hown hK hP 0 (Nat.le_of_ble_eq_true rfl) rfl rfl 10 (by decide) (hts (.fieldLink RX12 32 "SeatsRoundModel" "tableOf" "[I") (List.mem_of_getElem? (i := 1) rfl)) (fun _ h9 => h9) rfl dX12_tries_1 ?_
    refine lv_bipush (v := 10) hx hb dX12_tries_4 (by decide) ?_
    refine lv_iload_n hx hb dX12_tries_6 rfl (lv_at hl 2 rfl) ?_
    refine ux_iast hx hb hK hP hD hS 8 0 (Nat.le_of_ble_eq_true rfl) (fun _ => (cM_8 _ _ _ _)) rfl h dX12_tries_7 (fun σ25 H locs h hP hD hS => ?_)
    refine lv_aload_n hx hb dX12_tries_8 rfl (lv_at hl 0 rfl) ?_
    refine ux_get (D := (dC, dI)) (ci := 12) (v := .ref (ad 9)) (C := RX12) (T := TX12) (M := 59) (fs := (oM ad (σ25.1 0))) hx hb hts (fun _ h9 => List.mem_cons_of_mem _ (List.mem_append_right _ h9)) hown hK hP 0 (Nat.le_of_ble_eq_true rfl) rfl rfl 11 (by decide) (hts (.fieldLink RX12 35 "SeatsRoundModel" "tableZ" "[I") (List.mem_of_getElem? (i := 2) rfl)) (fun _ h9 => h9) rfl dX12_tries_9 ?_
    refine lv_bipush (v := 10) hx hb dX12_tries_12 (by decide) ?_
    refine lv_iload_n hx hb dX12_tries_14 rfl (lv_at hl 3 rfl) ?_
    refine ux_iast hx hb hK hP hD hS 9 0 (Nat.le_of_ble_eq_true rfl) (fun _ => (cM_9 _ _ _ _)) rfl h dX12_tries_15 (fun σ26 H locs h hP hD hS => ?_)
    refine lv_aload_n hx hb dX12_tries_16 rfl (lv_at hl 0 rfl) ?_
    refine ux_get (D := (dC, dI)) (ci := 12) (v := .ref (ad 13)) (C := RX12) (T := TX12) (M := 59) (fs := (oM ad (σ26.1 0))) hx hb hts (fun _ h9 => List.mem_cons_of_mem _ (List.mem_append_right _ h9)) hown hK hP 0 (Nat.le_of_ble_eq_true rfl) rfl rfl 15 (by decide) (hts (.fieldLink RX12 47 "SeatsRoundModel" "lawSize" "[I") (List.mem_of_getElem? (i := 3) rfl)) (fun _ h9 => h9) rfl dX12_tries_17 ?_
    refine lv_bipush (v := 10) hx hb dX12_tries_20 (by decide) ?_
    refine lv_aload_n hx hb dX12_tries_22 rfl (lv_at hl 0 rfl) ?_
    refine ux_get (D := (dC, dI)) (ci := 12) (v := .ref (ad 13)) (C := RX12) (T := TX12) (M := 59) (fs := (oM ad (σ26.1 0))) hx hb hts (fun _ h9 => List.mem_cons_of_mem _ (List.mem_append_right _ h9)) hown hK hP 0 (Nat.le_of_ble_eq_true rfl) rfl rfl 15 (by decide) (hts (.fieldLink RX12 47 "SeatsRoundModel" "lawSize" "[I") (List.mem_of_getElem? (i := 3) rfl)) (fun _ h9 => h9) rfl dX12_tries_23 ?_
    refine lv_iload_n hx hb dX12_tries_26 rfl (lv_at hl 1 rfl) ?_
    refine ux_iald hx hb hK hP 13 0 (Nat.le_of_ble_eq_true rfl) (cM_13 _ _ _ _) rfl h dX12_tries_27 (fun v27 h => ?_)
    refine ux_iast hx hb hK hP hD hS 13 0 (Nat.le_of_ble_eq_true rfl) (fun _ => (cM_13 _ _ _ _)) rfl h dX12_tries_28 (fun σ28 H locs h hP hD hS => ?_)
    refine lv_iconst (v := 0) hx hb dX12_tries_29 (by decide) ?_
    refine lv_istore (lv' := [(4, .int 0), (0, .ref (ad 0)), (1, .int x1), (2, .int x2), (3, .int x3)]) hx hb dX12_tries_30 hl (by decide) rfl (fun ls hl => ?_)
    have hl := lv_sub hl [1, 2, 3, 4, 0] (l' := [(0, .ref (ad 0)), (1, .int x1), (2, .int x2), (3, .int x3), (4, .int 0)]) rfl
    exact w32 FU σ28 x1 0 H locs ls h hP hD hS (lv_sub hl [0, 1, 4] rfl)
  intro H locs ls h hP hD hS hl
  exact w0 σ a1 a2 a3 H locs ls h hP hD hS (lv_sub hl [0, 1, 2, 3] rfl)

set_option maxHeartbeats 4000000 in
set_option maxRecDepth 100000 in
theorem tX12_setBy (l : Launch) (dC : Nat → ClassId) (dI : Nat → Nat → Nat) (cy : Nat → ClassId) (ad : Nat → Nat) (σ : S2) (a1 : Int32) (a2 : Int32) (sz : Nat) (r0 : Int32) (h : fX12_setBy σ a1 a2 = some r0) : Met l yX12_setBy wsX12_setBy ({ frames := 1, cells := 0, slots := 0, locals := 23 }) (va_Pc [.ref (ad 0), .int a1, .int a2] (wPre (dC, dI) cy (wG (cM cy ad) ad 40 σ) sz)) (va_Qi (fun (r : Int32) (_ : Unit) => r = r0) (fun (_ : Unit) t => wAt (dC, dI) (va_A (wG (cM cy ad) ad 40 σ) sz) (wG (cM cy ad) ad 40 σ) t) (va_A (wG (cM cy ad) ad 40 σ) sz)) 0 0 (va_A (wG (cM cy ad) ad 40 σ) sz) := by
  refine Met.ofW (cc := cX12_setBy) (maxL := 5) (ret := (some .int)) (by decide) rfl ?_
  intro p e s m args below meth c s₁ B hml hv
  obtain ⟨rfl, hsz, hP, hK, hD0, hN⟩ := hv
  have hx := B.exec
  have hb := B.bytes
  have hr := B.returns
  have hts := atoms_spec (ws := wsX12_setBy) B.pre
  have hown : s.vm.findClass RX12 = some m.cls := findClass_of_methodNamed B.named
  have hlocks := B.notSynchronized
  subst hsz
  have hD := hD0.self (sz := s.heap.size)
  generalize hAe : va_A (wG (cM cy ad) ad 40 σ) s.heap.size = A at hD ⊢
  have hA : ∀ q : Nat, s.heap.size ≤ q → A q := fun q h => by rw [← hAe]; exact Or.inr h
  have hS : va_S A s.heap s.heap [] := va_S.rf
  have hl := lv_entry ([.ref (ad 0), .int a1, .int a2]) (n := 5) (Nat.le_of_ble_eq_true rfl)
  rw [lg_entry_eq]
  generalize (lg_sl ([.ref (ad 0), .int a1, .int a2]) ++ List.replicate (5 - (lg_sl ([.ref (ad 0), .int a1, .int a2])).length) Slot.unset).toArray = ls at hl ⊢
  have hl : lv_has ls 5 [(0, .ref (ad 0)), (1, .int a1), (2, .int a2)] := hl
  unfold fX12_setBy at h
  clear hAe hD0
  suffices HH : ∀ (H : Heap) (locs : List Loc) (ls : Array Slot), fX12_setBy_0 σ a1 a2 = some r0 → va_P (dC, dI) vwCl (wG (cM cy ad) ad 40 σ) H → va_D A (wG (cM cy ad) ad 40 σ) → va_S A s.heap H locs → lv_has ls 5 [(0, .ref (ad 0)), (1, .int a1), (2, .int a2)] → W p l e (headSpec wsX12_setBy ({ frames := 1, cells := 0, slots := 0, locals := 23 })).room s m (#[.ref (ad 0), .int a1, .int a2]) below meth c H locs 0 0 (MQ below (va_Qi (fun (r : Int32) (_ : Unit) => r = r0) (fun (_ : Unit) t => wAt (dC, dI) A (wG (cM cy ad) ad 40 σ) t) A) (#[.ref (ad 0), .int a1, .int a2]) s 0 0 A) (F0 m 0 ls []) from HH s.heap [] ls h hP hD hS hl
  have w10 : ∀ (n : Nat), ∀ (σ : S2) (x2 : Int32) (x3 : Int32) (x4 : Int32) (H : Heap) (locs : List Loc) (ls : Array Slot), fX12_setBy_10 n σ x2 x3 x4 = some r0 → va_P (dC, dI) vwCl (wG (cM cy ad) ad 40 σ) H → va_D A (wG (cM cy ad) ad 40 σ) → va_S A s.heap H locs → lv_has ls 5 [(0, .ref (ad 0)), (2, .int x2), (3, .int x3), (4, .int x4)] → W p l e (headSpec wsX12_setBy ({ frames := 1, cells := 0, slots := 0, locals := 23 })).room s m (#[.ref (ad 0), .int a1, .int a2]) below meth c H locs 0 0 (MQ below (va_Qi (fun (r : Int32) (_ : Unit) => r = r0) (fun (_ : Unit) t => wAt (dC, dI) A (wG (cM cy ad) ad 40 σ) t) A) (#[.ref (ad 0), .int a1, .int a2]) s 0 0 A) (F0 m 10 ls []) := by
    intro n
    induction n with
    | zero => intro σ x2 x3 x4 H locs ls h; cases h
    | succ n ih =>
    intro σ x2 x3 x4 H locs ls h hP hD hS hl
    unfold fX12_setBy_10 at h
    refine lv_iload hx hb dX12_setBy_10 (lv_at hl 3 rfl) ?_
    refine lv_aload_n hx hb dX12_setBy_12 rfl (lv_at hl 0 rfl) ?_
    refine ux_get (D := (dC, dI)) (ci := 12) (v := .int (σ.1 0 30)) (C := RX12) (T := TX12) (M := 59) (fs := (oM ad (σ.1 0))) hx hb hts (fun _ h9 => List.mem_cons_of_mem _ (List.mem_append_right _ h9)) hown hK hP 0 (Nat.le_of_ble_eq_true rfl) rfl rfl 30 (by decide) (hts (.fieldLink RX12 310 "SeatsRoundModel" "comers" "I") (List.mem_of_getElem? (i := 2) rfl)) (fun _ h9 => h9) rfl dX12_setBy_13 ?_
    refine lv_icmp_ge (tgt := 42) hx hb dX12_setBy_16 (by decide) (fun hcd => ?_) (fun hcd => ?_)
    · have h := cdP hcd h
      refine lv_iload_n hx hb dX12_setBy_42 rfl (lv_at hl 2 rfl) ?_
      exact ux_iretP hx hb hr h hP hD hS hlocks dX12_setBy_43
    · have h := cdN hcd h
      refine lv_iload_n hx hb dX12_setBy_19 rfl (lv_at hl 2 rfl) ?_
      refine lv_iload_n hx hb dX12_setBy_20 rfl (lv_at hl 1 rfl) ?_
      refine lv_iload hx hb dX12_setBy_21 (lv_at hl 3 rfl) ?_
      refine lv_ishr hx hb dX12_setBy_23 ?_
      refine lv_iconst (v := 1) hx hb dX12_setBy_24 (by decide) ?_
      refine lv_iand hx hb dX12_setBy_25 ?_
      refine lv_aload_n hx hb dX12_setBy_26 rfl (lv_at hl 0 rfl) ?_
      refine ux_get (D := (dC, dI)) (ci := 12) (v := .ref (ad 26)) (C := RX12) (T := TX12) (M := 59) (fs := (oM ad (σ.1 0))) hx hb hts (fun _ h9 => List.mem_cons_of_mem _ (List.mem_append_right _ h9)) hown hK hP 0 (Nat.le_of_ble_eq_true rfl) rfl rfl 31 (by decide) (hts (.fieldLink RX12 86 "SeatsRoundModel" "comer" "[I") (List.mem_of_getElem? (i := 3) rfl)) (fun _ h9 => h9) rfl dX12_setBy_27 ?_
      change W _ _ _ _ _ _ _ _ _ _ _ _ _ _ _ (F0 m 30 ls [.ref (ad 26), .int ((x2 >>> (x4 &&& 31)) &&& 1), .int x3])
      refine lv_iload hx hb dX12_setBy_30 (lv_at hl 3 rfl) ?_
      refine ux_iald hx hb hK hP 26 0 (Nat.le_of_ble_eq_true rfl) (cM_26 _ _ _ _) rfl h dX12_setBy_32 (fun v1 h => ?_)
      refine lv_ishl hx hb dX12_setBy_33 ?_
      refine lv_ixor hx hb dX12_setBy_34 ?_
      refine lv_topi (fun v2 ev2 => ?_)
      have h := nmS h ev2
      refine lv_istore_n (lv' := [(3, .int v2), (0, .ref (ad 0)), (2, .int x2), (4, .int x4)]) hx hb dX12_setBy_35 rfl hl (by decide) rfl (fun ls hl => ?_)
      have hl := lv_sub hl [1, 2, 0, 3] (l' := [(0, .ref (ad 0)), (2, .int x2), (3, .int v2), (4, .int x4)]) rfl
      obtain ⟨v3, ev3⟩ : ∃ y : Int32, y = x4 + 1 := ⟨_, rfl⟩
      have h := nmS h ev3
      refine lv_iinc (v := v3) (lv' := [(4, .int v3), (0, .ref (ad 0)), (2, .int x2), (3, .int v2)]) hx hb dX12_setBy_36 hl (k := 3) rfl (by rw [ev3]; rfl) (by decide) rfl (fun ls hl => ?_)
      have hl := lv_sub hl [1, 2, 3, 0] (l' := [(0, .ref (ad 0)), (2, .int x2), (3, .int v2), (4, .int v3)]) rfl
      refine lv_goto (tgt := 10) hx hb dX12_setBy_39 (by decide) ?_
      exact ih σ x2 v2 v3 H locs ls h hP hD hS hl
  have w0 : ∀ (σ : S2) (x1 : Int32) (x2 : Int32) (H : Heap) (locs : List Loc) (ls : Array Slot), fX12_setBy_0 σ x1 x2 = some r0 → va_P (dC, dI) vwCl (wG (cM cy ad) ad 40 σ) H → va_D A (wG (cM cy ad) ad 40 σ) → va_S A s.heap H locs → lv_has ls 5 [(0, .ref (ad 0)), (1, .int x1), (2, .int x2)] → W p l e (headSpec wsX12_setBy ({ frames := 1, cells := 0, slots := 0, locals := 23 })).room s m (#[.ref (ad 0), .int a1, .int a2]) below meth c H locs 0 0 (MQ below (va_Qi (fun (r : Int32) (_ : Unit) => r = r0) (fun (_ : Unit) t => wAt (dC, dI) A (wG (cM cy ad) ad 40 σ) t) A) (#[.ref (ad 0), .int a1, .int a2]) s 0 0 A) (F0 m 0 ls []) := by
    intro σ x1 x2 H locs ls h hP hD hS hl
    unfold fX12_setBy_0 at h
    refine lv_aload_n hx hb dX12_setBy_0 rfl (lv_at hl 0 rfl) ?_
    refine ux_get (D := (dC, dI)) (ci := 12) (v := .ref (ad 8)) (C := RX12) (T := TX12) (M := 59) (fs := (oM ad (σ.1 0))) hx hb hts (fun _ h9 => List.mem_cons_of_mem _ (List.mem_append_right _ h9)) hown hK hP 0 (Nat.le_of_ble_eq_true rfl) rfl rfl 10 (by decide) (hts (.fieldLink RX12 32 "SeatsRoundModel" "tableOf" "[I") (List.mem_of_getElem? (i := 1) rfl)) (fun _ h9 => h9) rfl dX12_setBy_1 ?_
    refine lv_iload_n hx hb dX12_setBy_4 rfl (lv_at hl 1 rfl) ?_
    refine ux_iald hx hb hK hP 8 0 (Nat.le_of_ble_eq_true rfl) (cM_8 _ _ _ _) rfl h dX12_setBy_5 (fun v4 h => ?_)
    refine lv_istore_n (lv' := [(3, .int v4), (0, .ref (ad 0)), (1, .int x1), (2, .int x2)]) hx hb dX12_setBy_6 rfl hl (by decide) rfl (fun ls hl => ?_)
    have hl := lv_sub hl [1, 2, 3, 0] (l' := [(0, .ref (ad 0)), (1, .int x1), (2, .int x2), (3, .int v4)]) rfl
    refine lv_iconst (v := 0) hx hb dX12_setBy_7 (by decide) ?_
    refine lv_istore (lv' := [(4, .int 0), (0, .ref (ad 0)), (1, .int x1), (2, .int x2), (3, .int v4)]) hx hb dX12_setBy_8 hl (by decide) rfl (fun ls hl => ?_)
    have hl := lv_sub hl [1, 2, 3, 4, 0] (l' := [(0, .ref (ad 0)), (1, .int x1), (2, .int x2), (3, .int v4), (4, .int 0)]) rfl
    exact w10 FU σ x2 v4 0 H locs ls h hP hD hS (lv_sub hl [0, 2, 3, 4] rfl)
  intro H locs ls h hP hD hS hl
  exact w0 σ a1 a2 H locs ls h hP hD hS (lv_sub hl [0, 1, 2] rfl)

set_option maxHeartbeats 4000000 in
set_option maxRecDepth 100000 in
theorem tX12_nextOrder (l : Launch) (dC : Nat → ClassId) (dI : Nat → Nat → Nat) (cy : Nat → ClassId) (ad : Nat → Nat) (σ : S2) (a1 : Int32) (sz : Nat) (r0 : Int32) (σ9 : S2) (h : fX12_nextOrder σ a1 = some (r0, σ9)) : Met l yX12_nextOrder wsX12_nextOrder ({ frames := 1, cells := 0, slots := 0, locals := 23 }) (va_Pc [.ref (ad 0), .int a1] (wPre (dC, dI) cy (wG (cM cy ad) ad 40 σ) sz)) (va_Qi (fun (r : Int32) (_ : Unit) => r = r0) (fun (_ : Unit) t => wAt (dC, dI) (va_A (wG (cM cy ad) ad 40 σ) sz) (wG (cM cy ad) ad 40 σ9) t) (va_A (wG (cM cy ad) ad 40 σ) sz)) 0 0 (va_A (wG (cM cy ad) ad 40 σ) sz) := by
  refine Met.ofW (cc := cX12_nextOrder) (maxL := 8) (ret := (some .boolean)) (by decide) rfl ?_
  intro p e s m args below meth c s₁ B hml hv
  obtain ⟨rfl, hsz, hP, hK, hD0, hN⟩ := hv
  have hx := B.exec
  have hb := B.bytes
  have hr := B.returns
  have hts := atoms_spec (ws := wsX12_nextOrder) B.pre
  have hown : s.vm.findClass RX12 = some m.cls := findClass_of_methodNamed B.named
  have hlocks := B.notSynchronized
  subst hsz
  have hD := hD0.self (sz := s.heap.size)
  generalize hAe : va_A (wG (cM cy ad) ad 40 σ) s.heap.size = A at hD ⊢
  have hA : ∀ q : Nat, s.heap.size ≤ q → A q := fun q h => by rw [← hAe]; exact Or.inr h
  have hS : va_S A s.heap s.heap [] := va_S.rf
  have hl := lv_entry ([.ref (ad 0), .int a1]) (n := 8) (Nat.le_of_ble_eq_true rfl)
  rw [lg_entry_eq]
  generalize (lg_sl ([.ref (ad 0), .int a1]) ++ List.replicate (8 - (lg_sl ([.ref (ad 0), .int a1])).length) Slot.unset).toArray = ls at hl ⊢
  have hl : lv_has ls 8 [(0, .ref (ad 0)), (1, .int a1)] := hl
  unfold fX12_nextOrder at h
  clear hAe hD0
  suffices HH : ∀ (H : Heap) (locs : List Loc) (ls : Array Slot), fX12_nextOrder_0 σ a1 = some (r0, σ9) → va_P (dC, dI) vwCl (wG (cM cy ad) ad 40 σ) H → va_D A (wG (cM cy ad) ad 40 σ) → va_S A s.heap H locs → lv_has ls 8 [(0, .ref (ad 0)), (1, .int a1)] → W p l e (headSpec wsX12_nextOrder ({ frames := 1, cells := 0, slots := 0, locals := 23 })).room s m (#[.ref (ad 0), .int a1]) below meth c H locs 0 0 (MQ below (va_Qi (fun (r : Int32) (_ : Unit) => r = r0) (fun (_ : Unit) t => wAt (dC, dI) A (wG (cM cy ad) ad 40 σ9) t) A) (#[.ref (ad 0), .int a1]) s 0 0 A) (F0 m 0 ls []) from HH s.heap [] ls h hP hD hS hl
  have w108 : ∀ (n : Nat), ∀ (σ : S2) (x5 : Int32) (x6 : Int32) (H : Heap) (locs : List Loc) (ls : Array Slot), fX12_nextOrder_108 n σ x5 x6 = some (r0, σ9) → va_P (dC, dI) vwCl (wG (cM cy ad) ad 40 σ) H → va_D A (wG (cM cy ad) ad 40 σ) → va_S A s.heap H locs → lv_has ls 8 [(0, .ref (ad 0)), (5, .int x5), (6, .int x6)] → W p l e (headSpec wsX12_nextOrder ({ frames := 1, cells := 0, slots := 0, locals := 23 })).room s m (#[.ref (ad 0), .int a1]) below meth c H locs 0 0 (MQ below (va_Qi (fun (r : Int32) (_ : Unit) => r = r0) (fun (_ : Unit) t => wAt (dC, dI) A (wG (cM cy ad) ad 40 σ9) t) A) (#[.ref (ad 0), .int a1]) s 0 0 A) (F0 m 108 ls []) := by
    intro n
    induction n with
    | zero => intro σ x5 x6 H locs ls h; cases h
    | succ n ih =>
    intro σ x5 x6 H locs ls h hP hD hS hl
    unfold fX12_nextOrder_108 at h
    refine lv_iload hx hb dX12_nextOrder_108 (lv_at hl 2 rfl) ?_
    refine lv_iload hx hb dX12_nextOrder_110 (lv_at hl 1 rfl) ?_
    refine lv_icmp_ge (tgt := 156) hx hb dX12_nextOrder_112 (by decide) (fun hcd => ?_) (fun hcd => ?_)
    · have h := cdP hcd h
      refine lv_iconst (v := 1) hx hb dX12_nextOrder_156 (by decide) ?_
      exact ux_zret hx hb hr rfl h hP hD hS hlocks dX12_nextOrder_157
    · have h := cdN hcd h
      refine lv_aload_n hx hb dX12_nextOrder_115 rfl (lv_at hl 0 rfl) ?_
      refine ux_get (D := (dC, dI)) (ci := 12) (v := .ref (ad 39)) (C := RX12) (T := TX12) (M := 59) (fs := (oM ad (σ.1 0))) hx hb hts (fun _ h9 => List.mem_cons_of_mem _ (List.mem_append_right _ h9)) hown hK hP 0 (Nat.le_of_ble_eq_true rfl) rfl rfl 58 (by decide) (hts (.fieldLink RX12 130 "SeatsRoundModel" "tried" "[I") (List.mem_of_getElem? (i := 1) rfl)) (fun _ h9 => h9) rfl dX12_nextOrder_116 ?_
      refine lv_iload hx hb dX12_nextOrder_119 (lv_at hl 2 rfl) ?_
      refine ux_iald hx hb hK hP 39 0 (Nat.le_of_ble_eq_true rfl) (cM_39 _ _ _ _) rfl h dX12_nextOrder_121 (fun v1 h => ?_)
      refine lv_istore (lv' := [(7, .int v1), (0, .ref (ad 0)), (5, .int x5), (6, .int x6)]) hx hb dX12_nextOrder_122 hl (by decide) rfl (fun ls hl => ?_)
      have hl := lv_sub hl [1, 2, 3, 0] (l' := [(0, .ref (ad 0)), (5, .int x5), (6, .int x6), (7, .int v1)]) rfl
      refine lv_aload_n hx hb dX12_nextOrder_124 rfl (lv_at hl 0 rfl) ?_
      refine ux_get (D := (dC, dI)) (ci := 12) (v := .ref (ad 39)) (C := RX12) (T := TX12) (M := 59) (fs := (oM ad (σ.1 0))) hx hb hts (fun _ h9 => List.mem_cons_of_mem _ (List.mem_append_right _ h9)) hown hK hP 0 (Nat.le_of_ble_eq_true rfl) rfl rfl 58 (by decide) (hts (.fieldLink RX12 130 "SeatsRoundModel" "tried" "[I") (List.mem_of_getElem? (i := 1) rfl)) (fun _ h9 => h9) rfl dX12_nextOrder_125 ?_
      refine lv_iload hx hb dX12_nextOrder_128 (lv_at hl 2 rfl) ?_
      refine lv_aload_n hx hb dX12_nextOrder_130 rfl (lv_at hl 0 rfl) ?_
      refine ux_get (D := (dC, dI)) (ci := 12) (v := .ref (ad 39)) (C := RX12) (T := TX12) (M := 59) (fs := (oM ad (σ.1 0))) hx hb hts (fun _ h9 => List.mem_cons_of_mem _ (List.mem_append_right _ h9)) hown hK hP 0 (Nat.le_of_ble_eq_true rfl) rfl rfl 58 (by decide) (hts (.fieldLink RX12 130 "SeatsRoundModel" "tried" "[I") (List.mem_of_getElem? (i := 1) rfl)) (fun _ h9 => h9) rfl dX12_nextOrder_131 ?_
      refine lv_iload hx hb dX12_nextOrder_134 (lv_at hl 1 rfl) ?_
      refine ux_iald hx hb hK hP 39 0 (Nat.le_of_ble_eq_true rfl) (cM_39 _ _ _ _) rfl h dX12_nextOrder_136 (fun v2 h => ?_)
      change W _ _ _ _ _ _ _ _ _ _ _ _ _ _ _ (F0 m 137 ls [.int v2, .int x6, .ref (ad 39)])
      refine ux_iast hx hb hK hP hD hS 39 0 (Nat.le_of_ble_eq_true rfl) (fun _ => (cM_39 _ _ _ _)) rfl h dX12_nextOrder_137 (fun σ3 H locs h hP hD hS => ?_)
      refine lv_aload_n hx hb dX12_nextOrder_138 rfl (lv_at hl 0 rfl) ?_
      refine ux_get (D := (dC, dI)) (ci := 12) (v := .ref (ad 39)) (C := RX12) (T := TX12) (M := 59) (fs := (oM ad (σ3.1 0))) hx hb hts (fun _ h9 => List.mem_cons_of_mem _ (List.mem_append_right _ h9)) hown hK hP 0 (Nat.le_of_ble_eq_true rfl) rfl rfl 58 (by decide) (hts (.fieldLink RX12 130 "SeatsRoundModel" "tried" "[I") (List.mem_of_getElem? (i := 1) rfl)) (fun _ h9 => h9) rfl dX12_nextOrder_139 ?_
      refine lv_iload hx hb dX12_nextOrder_142 (lv_at hl 1 rfl) ?_
      refine lv_iload hx hb dX12_nextOrder_144 (lv_at hl 3 rfl) ?_
      refine ux_iast hx hb hK hP hD hS 39 0 (Nat.le_of_ble_eq_true rfl) (fun _ => (cM_39 _ _ _ _)) rfl h dX12_nextOrder_146 (fun σ4 H locs h hP hD hS => ?_)
      obtain ⟨v5, ev5⟩ : ∃ y : Int32, y = x5 + (-1) := ⟨_, rfl⟩
      have h := nmS h ev5
      refine lv_iinc (v := v5) (lv' := [(5, .int v5), (0, .ref (ad 0)), (6, .int x6), (7, .int v1)]) hx hb dX12_nextOrder_147 hl (k := 1) rfl (by rw [ev5]; rfl) (by decide) rfl (fun ls hl => ?_)
      have hl := lv_sub hl [1, 0, 2, 3] (l' := [(0, .ref (ad 0)), (5, .int v5), (6, .int x6), (7, .int v1)]) rfl
      obtain ⟨v6, ev6⟩ : ∃ y : Int32, y = x6 + 1 := ⟨_, rfl⟩
      have h := nmS h ev6
      refine lv_iinc (v := v6) (lv' := [(6, .int v6), (0, .ref (ad 0)), (5, .int v5), (7, .int v1)]) hx hb dX12_nextOrder_150 hl (k := 2) rfl (by rw [ev6]; rfl) (by decide) rfl (fun ls hl => ?_)
      have hl := lv_sub hl [1, 2, 0, 3] (l' := [(0, .ref (ad 0)), (5, .int v5), (6, .int v6), (7, .int v1)]) rfl
      refine lv_goto (tgt := 108) hx hb dX12_nextOrder_153 (by decide) ?_
      exact ih σ4 v5 v6 H locs ls h hP hD hS (lv_sub hl [0, 1, 2] rfl)
  have w49 : ∀ (n : Nat), ∀ (σ : S2) (x1 : Int32) (x2 : Int32) (x3 : Int32) (H : Heap) (locs : List Loc) (ls : Array Slot), fX12_nextOrder_49 n σ x1 x2 x3 = some (r0, σ9) → va_P (dC, dI) vwCl (wG (cM cy ad) ad 40 σ) H → va_D A (wG (cM cy ad) ad 40 σ) → va_S A s.heap H locs → lv_has ls 8 [(0, .ref (ad 0)), (1, .int x1), (2, .int x2), (3, .int x3)] → W p l e (headSpec wsX12_nextOrder ({ frames := 1, cells := 0, slots := 0, locals := 23 })).room s m (#[.ref (ad 0), .int a1]) below meth c H locs 0 0 (MQ below (va_Qi (fun (r : Int32) (_ : Unit) => r = r0) (fun (_ : Unit) t => wAt (dC, dI) A (wG (cM cy ad) ad 40 σ9) t) A) (#[.ref (ad 0), .int a1]) s 0 0 A) (F0 m 49 ls []) := by
    intro n
    induction n with
    | zero => intro σ x1 x2 x3 H locs ls h; cases h
    | succ n ih =>
    intro σ x1 x2 x3 H locs ls h hP hD hS hl
    unfold fX12_nextOrder_49 at h
    refine lv_aload_n hx hb dX12_nextOrder_49 rfl (lv_at hl 0 rfl) ?_
    refine ux_get (D := (dC, dI)) (ci := 12) (v := .ref (ad 39)) (C := RX12) (T := TX12) (M := 59) (fs := (oM ad (σ.1 0))) hx hb hts (fun _ h9 => List.mem_cons_of_mem _ (List.mem_append_right _ h9)) hown hK hP 0 (Nat.le_of_ble_eq_true rfl) rfl rfl 58 (by decide) (hts (.fieldLink RX12 130 "SeatsRoundModel" "tried" "[I") (List.mem_of_getElem? (i := 1) rfl)) (fun _ h9 => h9) rfl dX12_nextOrder_50 ?_
    refine lv_iload_n hx hb dX12_nextOrder_53 rfl (lv_at hl 3 rfl) ?_
    refine ux_iald hx hb hK hP 39 0 (Nat.le_of_ble_eq_true rfl) (cM_39 _ _ _ _) rfl h dX12_nextOrder_54 (fun v7 h => ?_)
    refine lv_aload_n hx hb dX12_nextOrder_55 rfl (lv_at hl 0 rfl) ?_
    refine ux_get (D := (dC, dI)) (ci := 12) (v := .ref (ad 39)) (C := RX12) (T := TX12) (M := 59) (fs := (oM ad (σ.1 0))) hx hb hts (fun _ h9 => List.mem_cons_of_mem _ (List.mem_append_right _ h9)) hown hK hP 0 (Nat.le_of_ble_eq_true rfl) rfl rfl 58 (by decide) (hts (.fieldLink RX12 130 "SeatsRoundModel" "tried" "[I") (List.mem_of_getElem? (i := 1) rfl)) (fun _ h9 => h9) rfl dX12_nextOrder_56 ?_
    refine lv_iload_n hx hb dX12_nextOrder_59 rfl (lv_at hl 2 rfl) ?_
    refine ux_iald hx hb hK hP 39 0 (Nat.le_of_ble_eq_true rfl) (cM_39 _ _ _ _) rfl h dX12_nextOrder_60 (fun v8 h => ?_)
    refine lv_icmp_ge (tgt := 70) hx hb dX12_nextOrder_61 (by decide) (fun hcd => ?_) (fun hcd => ?_)
    · have h := cdP hcd h
      refine lv_aload_n hx hb dX12_nextOrder_70 rfl (lv_at hl 0 rfl) ?_
      refine ux_get (D := (dC, dI)) (ci := 12) (v := .ref (ad 39)) (C := RX12) (T := TX12) (M := 59) (fs := (oM ad (σ.1 0))) hx hb hts (fun _ h9 => List.mem_cons_of_mem _ (List.mem_append_right _ h9)) hown hK hP 0 (Nat.le_of_ble_eq_true rfl) rfl rfl 58 (by decide) (hts (.fieldLink RX12 130 "SeatsRoundModel" "tried" "[I") (List.mem_of_getElem? (i := 1) rfl)) (fun _ h9 => h9) rfl dX12_nextOrder_71 ?_
      refine lv_iload_n hx hb dX12_nextOrder_74 rfl (lv_at hl 2 rfl) ?_
      refine ux_iald hx hb hK hP 39 0 (Nat.le_of_ble_eq_true rfl) (cM_39 _ _ _ _) rfl h dX12_nextOrder_75 (fun v9 h => ?_)
      refine lv_istore (lv' := [(4, .int v9), (0, .ref (ad 0)), (1, .int x1), (2, .int x2), (3, .int x3)]) hx hb dX12_nextOrder_76 hl (by decide) rfl (fun ls hl => ?_)
      have hl := lv_sub hl [1, 2, 3, 4, 0] (l' := [(0, .ref (ad 0)), (1, .int x1), (2, .int x2), (3, .int x3), (4, .int v9)]) rfl
      refine lv_aload_n hx hb dX12_nextOrder_78 rfl (lv_at hl 0 rfl) ?_
      refine ux_get (D := (dC, dI)) (ci := 12) (v := .ref (ad 39)) (C := RX12) (T := TX12) (M := 59) (fs := (oM ad (σ.1 0))) hx hb hts (fun _ h9 => List.mem_cons_of_mem _ (List.mem_append_right _ h9)) hown hK hP 0 (Nat.le_of_ble_eq_true rfl) rfl rfl 58 (by decide) (hts (.fieldLink RX12 130 "SeatsRoundModel" "tried" "[I") (List.mem_of_getElem? (i := 1) rfl)) (fun _ h9 => h9) rfl dX12_nextOrder_79 ?_
      refine lv_iload_n hx hb dX12_nextOrder_82 rfl (lv_at hl 2 rfl) ?_
      refine lv_aload_n hx hb dX12_nextOrder_83 rfl (lv_at hl 0 rfl) ?_
      refine ux_get (D := (dC, dI)) (ci := 12) (v := .ref (ad 39)) (C := RX12) (T := TX12) (M := 59) (fs := (oM ad (σ.1 0))) hx hb hts (fun _ h9 => List.mem_cons_of_mem _ (List.mem_append_right _ h9)) hown hK hP 0 (Nat.le_of_ble_eq_true rfl) rfl rfl 58 (by decide) (hts (.fieldLink RX12 130 "SeatsRoundModel" "tried" "[I") (List.mem_of_getElem? (i := 1) rfl)) (fun _ h9 => h9) rfl dX12_nextOrder_84 ?_
      refine lv_iload_n hx hb dX12_nextOrder_87 rfl (lv_at hl 3 rfl) ?_
      refine ux_iald hx hb hK hP 39 0 (Nat.le_of_ble_eq_true rfl) (cM_39 _ _ _ _) rfl h dX12_nextOrder_88 (fun v10 h => ?_)
      change W _ _ _ _ _ _ _ _ _ _ _ _ _ _ _ (F0 m 89 ls [.int v10, .int x2, .ref (ad 39)])
      refine ux_iast hx hb hK hP hD hS 39 0 (Nat.le_of_ble_eq_true rfl) (fun _ => (cM_39 _ _ _ _)) rfl h dX12_nextOrder_89 (fun σ11 H locs h hP hD hS => ?_)
      refine lv_aload_n hx hb dX12_nextOrder_90 rfl (lv_at hl 0 rfl) ?_
      refine ux_get (D := (dC, dI)) (ci := 12) (v := .ref (ad 39)) (C := RX12) (T := TX12) (M := 59) (fs := (oM ad (σ11.1 0))) hx hb hts (fun _ h9 => List.mem_cons_of_mem _ (List.mem_append_right _ h9)) hown hK hP 0 (Nat.le_of_ble_eq_true rfl) rfl rfl 58 (by decide) (hts (.fieldLink RX12 130 "SeatsRoundModel" "tried" "[I") (List.mem_of_getElem? (i := 1) rfl)) (fun _ h9 => h9) rfl dX12_nextOrder_91 ?_
      refine lv_iload_n hx hb dX12_nextOrder_94 rfl (lv_at hl 3 rfl) ?_
      refine lv_iload hx hb dX12_nextOrder_95 (lv_at hl 4 rfl) ?_
      refine ux_iast hx hb hK hP hD hS 39 0 (Nat.le_of_ble_eq_true rfl) (fun _ => (cM_39 _ _ _ _)) rfl h dX12_nextOrder_97 (fun σ12 H locs h hP hD hS => ?_)
      refine lv_iload_n hx hb dX12_nextOrder_98 rfl (lv_at hl 1 rfl) ?_
      refine lv_iconst (v := 1) hx hb dX12_nextOrder_99 (by decide) ?_
      refine lv_isub hx hb dX12_nextOrder_100 ?_
      refine lv_topi (fun v13 ev13 => ?_)
      have h := nmS h ev13
      refine lv_istore (lv' := [(5, .int v13), (0, .ref (ad 0)), (1, .int x1), (2, .int x2), (3, .int x3), (4, .int v9)]) hx hb dX12_nextOrder_101 hl (by decide) rfl (fun ls hl => ?_)
      have hl := lv_sub hl [1, 2, 3, 4, 5, 0] (l' := [(0, .ref (ad 0)), (1, .int x1), (2, .int x2), (3, .int x3), (4, .int v9), (5, .int v13)]) rfl
      refine lv_iload_n hx hb dX12_nextOrder_103 rfl (lv_at hl 2 rfl) ?_
      refine lv_iconst (v := 1) hx hb dX12_nextOrder_104 (by decide) ?_
      refine lv_iadd hx hb dX12_nextOrder_105 ?_
      refine lv_topi (fun v14 ev14 => ?_)
      have h := nmS h ev14
      refine lv_istore (lv' := [(6, .int v14), (0, .ref (ad 0)), (1, .int x1), (2, .int x2), (3, .int x3), (4, .int v9), (5, .int v13)]) hx hb dX12_nextOrder_106 hl (by decide) rfl (fun ls hl => ?_)
      have hl := lv_sub hl [1, 2, 3, 4, 5, 6, 0] (l' := [(0, .ref (ad 0)), (1, .int x1), (2, .int x2), (3, .int x3), (4, .int v9), (5, .int v13), (6, .int v14)]) rfl
      exact w108 FU σ12 v13 v14 H locs ls h hP hD hS (lv_sub hl [0, 5, 6] rfl)
    · have h := cdN hcd h
      obtain ⟨v15, ev15⟩ : ∃ y : Int32, y = x3 + (-1) := ⟨_, rfl⟩
      have h := nmS h ev15
      refine lv_iinc (v := v15) (lv' := [(3, .int v15), (0, .ref (ad 0)), (1, .int x1), (2, .int x2)]) hx hb dX12_nextOrder_64 hl (k := 3) rfl (by rw [ev15]; rfl) (by decide) rfl (fun ls hl => ?_)
      have hl := lv_sub hl [1, 2, 3, 0] (l' := [(0, .ref (ad 0)), (1, .int x1), (2, .int x2), (3, .int v15)]) rfl
      refine lv_goto (tgt := 49) hx hb dX12_nextOrder_67 (by decide) ?_
      exact ih σ x1 x2 v15 H locs ls h hP hD hS hl
  have w39 : ∀ (σ : S2) (x1 : Int32) (x2 : Int32) (H : Heap) (locs : List Loc) (ls : Array Slot), fX12_nextOrder_39 σ x1 x2 = some (r0, σ9) → va_P (dC, dI) vwCl (wG (cM cy ad) ad 40 σ) H → va_D A (wG (cM cy ad) ad 40 σ) → va_S A s.heap H locs → lv_has ls 8 [(0, .ref (ad 0)), (1, .int x1), (2, .int x2)] → W p l e (headSpec wsX12_nextOrder ({ frames := 1, cells := 0, slots := 0, locals := 23 })).room s m (#[.ref (ad 0), .int a1]) below meth c H locs 0 0 (MQ below (va_Qi (fun (r : Int32) (_ : Unit) => r = r0) (fun (_ : Unit) t => wAt (dC, dI) A (wG (cM cy ad) ad 40 σ9) t) A) (#[.ref (ad 0), .int a1]) s 0 0 A) (F0 m 39 ls []) := by
    intro σ x1 x2 H locs ls h hP hD hS hl
    unfold fX12_nextOrder_39 at h
    refine lv_iload_n hx hb dX12_nextOrder_39 rfl (lv_at hl 2 rfl) ?_
    refine lv_if_ge (tgt := 45) hx hb dX12_nextOrder_40 (by decide) (fun hcd => ?_) (fun hcd => ?_)
    · have h := cdP hcd h
      refine lv_iload_n hx hb dX12_nextOrder_45 rfl (lv_at hl 1 rfl) ?_
      refine lv_iconst (v := 1) hx hb dX12_nextOrder_46 (by decide) ?_
      refine lv_isub hx hb dX12_nextOrder_47 ?_
      refine lv_topi (fun v16 ev16 => ?_)
      have h := nmS h ev16
      refine lv_istore_n (lv' := [(3, .int v16), (0, .ref (ad 0)), (1, .int x1), (2, .int x2)]) hx hb dX12_nextOrder_48 rfl hl (by decide) rfl (fun ls hl => ?_)
      have hl := lv_sub hl [1, 2, 3, 0] (l' := [(0, .ref (ad 0)), (1, .int x1), (2, .int x2), (3, .int v16)]) rfl
      exact w49 FU σ x1 x2 v16 H locs ls h hP hD hS hl
    · have h := cdN hcd h
      refine lv_iconst (v := 0) hx hb dX12_nextOrder_43 (by decide) ?_
      exact ux_zret hx hb hr rfl h hP hD hS hlocks dX12_nextOrder_44
  have w21 : ∀ (k4 : S2 → Int32 → Int32 → Option (Int32 × S2)) (hk4 : ∀ (σ : S2) (x1 : Int32) (x2 : Int32) (H : Heap) (locs : List Loc) (ls : Array Slot), k4 σ x1 x2 = some (r0, σ9) → va_P (dC, dI) vwCl (wG (cM cy ad) ad 40 σ) H → va_D A (wG (cM cy ad) ad 40 σ) → va_S A s.heap H locs → lv_has ls 8 [(0, .ref (ad 0)), (1, .int x1), (2, .int x2)] → W p l e (headSpec wsX12_nextOrder ({ frames := 1, cells := 0, slots := 0, locals := 23 })).room s m (#[.ref (ad 0), .int a1]) below meth c H locs 0 0 (MQ below (va_Qi (fun (r : Int32) (_ : Unit) => r = r0) (fun (_ : Unit) t => wAt (dC, dI) A (wG (cM cy ad) ad 40 σ9) t) A) (#[.ref (ad 0), .int a1]) s 0 0 A) (F0 m 4 ls [])) , ∀ (σ : S2) (x1 : Int32) (x2 : Int32) (s0 : Int32) (H : Heap) (locs : List Loc) (ls : Array Slot), fX12_nextOrder_21 k4 σ x1 x2 s0 = some (r0, σ9) → va_P (dC, dI) vwCl (wG (cM cy ad) ad 40 σ) H → va_D A (wG (cM cy ad) ad 40 σ) → va_S A s.heap H locs → lv_has ls 8 [(0, .ref (ad 0)), (1, .int x1), (2, .int x2)] → W p l e (headSpec wsX12_nextOrder ({ frames := 1, cells := 0, slots := 0, locals := 23 })).room s m (#[.ref (ad 0), .int a1]) below meth c H locs 0 0 (MQ below (va_Qi (fun (r : Int32) (_ : Unit) => r = r0) (fun (_ : Unit) t => wAt (dC, dI) A (wG (cM cy ad) ad 40 σ9) t) A) (#[.ref (ad 0), .int a1]) s 0 0 A) (F0 m 21 ls [.int s0, .ref (ad 39)]) := by
    intro k4 hk4 σ x1 x2 s0 H locs ls h hP hD hS hl
    unfold fX12_nextOrder_21 at h
    refine ux_iald hx hb hK hP 39 0 (Nat.le_of_ble_eq_true rfl) (cM_39 _ _ _ _) rfl h dX12_nextOrder_21 (fun v17 h => ?_)
    refine lv_aload_n hx hb dX12_nextOrder_22 rfl (lv_at hl 0 rfl) ?_
    refine ux_get (D := (dC, dI)) (ci := 12) (v := .ref (ad 39)) (C := RX12) (T := TX12) (M := 59) (fs := (oM ad (σ.1 0))) hx hb hts (fun _ h9 => List.mem_cons_of_mem _ (List.mem_append_right _ h9)) hown hK hP 0 (Nat.le_of_ble_eq_true rfl) rfl rfl 58 (by decide) (hts (.fieldLink RX12 130 "SeatsRoundModel" "tried" "[I") (List.mem_of_getElem? (i := 1) rfl)) (fun _ h9 => h9) rfl dX12_nextOrder_23 ?_
    refine lv_iload_n hx hb dX12_nextOrder_26 rfl (lv_at hl 2 rfl) ?_
    refine lv_iconst (v := 1) hx hb dX12_nextOrder_27 (by decide) ?_
    refine lv_iadd hx hb dX12_nextOrder_28 ?_
    refine ux_iald hx hb hK hP 39 0 (Nat.le_of_ble_eq_true rfl) (cM_39 _ _ _ _) rfl h dX12_nextOrder_29 (fun v18 h => ?_)
    refine lv_icmp_le (tgt := 39) hx hb dX12_nextOrder_30 (by decide) (fun hcd => ?_) (fun hcd => ?_)
    · have h := cdP hcd h
      exact w39 σ x1 x2 H locs ls h hP hD hS hl
    · have h := cdN hcd h
      obtain ⟨v19, ev19⟩ : ∃ y : Int32, y = x2 + (-1) := ⟨_, rfl⟩
      have h := nmS h ev19
      refine lv_iinc (v := v19) (lv' := [(2, .int v19), (0, .ref (ad 0)), (1, .int x1)]) hx hb dX12_nextOrder_33 hl (k := 2) rfl (by rw [ev19]; rfl) (by decide) rfl (fun ls hl => ?_)
      have hl := lv_sub hl [1, 2, 0] (l' := [(0, .ref (ad 0)), (1, .int x1), (2, .int v19)]) rfl
      refine lv_goto (tgt := 4) hx hb dX12_nextOrder_36 (by decide) ?_
      exact hk4 σ x1 v19 H locs ls h hP hD hS hl
  have w4 : ∀ (n : Nat), ∀ (σ : S2) (x1 : Int32) (x2 : Int32) (H : Heap) (locs : List Loc) (ls : Array Slot), fX12_nextOrder_4 n σ x1 x2 = some (r0, σ9) → va_P (dC, dI) vwCl (wG (cM cy ad) ad 40 σ) H → va_D A (wG (cM cy ad) ad 40 σ) → va_S A s.heap H locs → lv_has ls 8 [(0, .ref (ad 0)), (1, .int x1), (2, .int x2)] → W p l e (headSpec wsX12_nextOrder ({ frames := 1, cells := 0, slots := 0, locals := 23 })).room s m (#[.ref (ad 0), .int a1]) below meth c H locs 0 0 (MQ below (va_Qi (fun (r : Int32) (_ : Unit) => r = r0) (fun (_ : Unit) t => wAt (dC, dI) A (wG (cM cy ad) ad 40 σ9) t) A) (#[.ref (ad 0), .int a1]) s 0 0 A) (F0 m 4 ls []) := by
    intro n
    induction n with
    | zero => intro σ x1 x2 H locs ls h; cases h
    | succ n ih =>
    intro σ x1 x2 H locs ls h hP hD hS hl
    unfold fX12_nextOrder_4 at h
    refine lv_iload_n hx hb dX12_nextOrder_4 rfl (lv_at hl 2 rfl) ?_
    refine lv_if_lt (tgt := 39) hx hb dX12_nextOrder_5 (by decide) (fun hcd => ?_) (fun hcd => ?_)
    · have h := cdP hcd h
      exact w39 σ x1 x2 H locs ls h hP hD hS hl
    · have h := cdN hcd h
      refine lv_aload_n hx hb dX12_nextOrder_8 rfl (lv_at hl 0 rfl) ?_
      refine ux_get (D := (dC, dI)) (ci := 12) (v := .ref (ad 39)) (C := RX12) (T := TX12) (M := 59) (fs := (oM ad (σ.1 0))) hx hb hts (fun _ h9 => List.mem_cons_of_mem _ (List.mem_append_right _ h9)) hown hK hP 0 (Nat.le_of_ble_eq_true rfl) rfl rfl 58 (by decide) (hts (.fieldLink RX12 130 "SeatsRoundModel" "tried" "[I") (List.mem_of_getElem? (i := 1) rfl)) (fun _ h9 => h9) rfl dX12_nextOrder_9 ?_
      refine lv_iload_n hx hb dX12_nextOrder_12 rfl (lv_at hl 2 rfl) ?_
      refine lv_if_ge (tgt := 20) hx hb dX12_nextOrder_13 (by decide) (fun hcd => ?_) (fun hcd => ?_)
      · have h := cdP hcd h
        refine lv_iload_n hx hb dX12_nextOrder_20 rfl (lv_at hl 2 rfl) ?_
        exact w21 _ ih σ x1 x2 x2 H locs ls h hP hD hS hl
      · have h := cdN hcd h
        refine lv_iconst (v := 0) hx hb dX12_nextOrder_16 (by decide) ?_
        refine lv_goto (tgt := 21) hx hb dX12_nextOrder_17 (by decide) ?_
        exact w21 _ ih σ x1 x2 0 H locs ls h hP hD hS hl
  have w0 : ∀ (σ : S2) (x1 : Int32) (H : Heap) (locs : List Loc) (ls : Array Slot), fX12_nextOrder_0 σ x1 = some (r0, σ9) → va_P (dC, dI) vwCl (wG (cM cy ad) ad 40 σ) H → va_D A (wG (cM cy ad) ad 40 σ) → va_S A s.heap H locs → lv_has ls 8 [(0, .ref (ad 0)), (1, .int x1)] → W p l e (headSpec wsX12_nextOrder ({ frames := 1, cells := 0, slots := 0, locals := 23 })).room s m (#[.ref (ad 0), .int a1]) below meth c H locs 0 0 (MQ below (va_Qi (fun (r : Int32) (_ : Unit) => r = r0) (fun (_ : Unit) t => wAt (dC, dI) A (wG (cM cy ad) ad 40 σ9) t) A) (#[.ref (ad 0), .int a1]) s 0 0 A) (F0 m 0 ls []) := by
    intro σ x1 H locs ls h hP hD hS hl
    unfold fX12_nextOrder_0 at h
    refine lv_iload_n hx hb dX12_nextOrder_0 rfl (lv_at hl 1 rfl) ?_
    refine lv_iconst (v := 2) hx hb dX12_nextOrder_1 (by decide) ?_
    refine lv_isub hx hb dX12_nextOrder_2 ?_
    refine lv_topi (fun v20 ev20 => ?_)
    have h := nmS h ev20
    refine lv_istore_n (lv' := [(2, .int v20), (0, .ref (ad 0)), (1, .int x1)]) hx hb dX12_nextOrder_3 rfl hl (by decide) rfl (fun ls hl => ?_)
    have hl := lv_sub hl [1, 2, 0] (l' := [(0, .ref (ad 0)), (1, .int x1), (2, .int v20)]) rfl
    exact w4 FU σ x1 v20 H locs ls h hP hD hS hl
  intro H locs ls h hP hD hS hl
  exact w0 σ a1 H locs ls h hP hD hS (lv_sub hl [0, 1] rfl)

set_option maxHeartbeats 4000000 in
set_option maxRecDepth 100000 in
theorem tX12_movesBy (l : Launch) (dC : Nat → ClassId) (dI : Nat → Nat → Nat) (cy : Nat → ClassId) (ad : Nat → Nat) (σ : S2) (a1 : Int32) (sz : Nat) (r0 : Int32) (h : fX12_movesBy σ a1 = some r0) : Met l yX12_movesBy wsX12_movesBy ({ frames := 2, cells := 0, slots := 0, locals := 47 }) (va_Pc [.ref (ad 0), .int a1] (wPre (dC, dI) cy (wG (cM cy ad) ad 40 σ) sz)) (va_Qi (fun (r : Int32) (_ : Unit) => r = r0) (fun (_ : Unit) t => wAt (dC, dI) (va_A (wG (cM cy ad) ad 40 σ) sz) (wG (cM cy ad) ad 40 σ) t) (va_A (wG (cM cy ad) ad 40 σ) sz)) 0 0 (va_A (wG (cM cy ad) ad 40 σ) sz) := by
  refine Met.ofW (cc := cX12_movesBy) (maxL := 7) (ret := (some .int)) (by decide) rfl ?_
  intro p e s m args below meth c s₁ B hml hv
  obtain ⟨rfl, hsz, hP, hK, hD0, hN⟩ := hv
  have hx := B.exec
  have hb := B.bytes
  have hr := B.returns
  have hts := atoms_spec (ws := wsX12_movesBy) B.pre
  have hown : s.vm.findClass RX12 = some m.cls := findClass_of_methodNamed B.named
  have hlocks := B.notSynchronized
  subst hsz
  have hD := hD0.self (sz := s.heap.size)
  generalize hAe : va_A (wG (cM cy ad) ad 40 σ) s.heap.size = A at hD ⊢
  have hA : ∀ q : Nat, s.heap.size ≤ q → A q := fun q h => by rw [← hAe]; exact Or.inr h
  have hS : va_S A s.heap s.heap [] := va_S.rf
  have hl := lv_entry ([.ref (ad 0), .int a1]) (n := 7) (Nat.le_of_ble_eq_true rfl)
  rw [lg_entry_eq]
  generalize (lg_sl ([.ref (ad 0), .int a1]) ++ List.replicate (7 - (lg_sl ([.ref (ad 0), .int a1])).length) Slot.unset).toArray = ls at hl ⊢
  have hl : lv_has ls 7 [(0, .ref (ad 0)), (1, .int a1)] := hl
  unfold fX12_movesBy at h
  clear hAe hD0
  suffices HH : ∀ (H : Heap) (locs : List Loc) (ls : Array Slot), fX12_movesBy_0 σ a1 = some r0 → va_P (dC, dI) vwCl (wG (cM cy ad) ad 40 σ) H → va_D A (wG (cM cy ad) ad 40 σ) → va_S A s.heap H locs → lv_has ls 7 [(0, .ref (ad 0)), (1, .int a1)] → W p l e (headSpec wsX12_movesBy ({ frames := 2, cells := 0, slots := 0, locals := 47 })).room s m (#[.ref (ad 0), .int a1]) below meth c H locs 0 0 (MQ below (va_Qi (fun (r : Int32) (_ : Unit) => r = r0) (fun (_ : Unit) t => wAt (dC, dI) A (wG (cM cy ad) ad 40 σ) t) A) (#[.ref (ad 0), .int a1]) s 0 0 A) (F0 m 0 ls []) from HH s.heap [] ls h hP hD hS hl
  have w44 : ∀ (k7 : S2 → Int32 → Int32 → Int32 → Int32 → Option Int32) (hk7 : ∀ (σ : S2) (x1 : Int32) (x2 : Int32) (x3 : Int32) (x4 : Int32) (H : Heap) (locs : List Loc) (ls : Array Slot), k7 σ x1 x2 x3 x4 = some r0 → va_P (dC, dI) vwCl (wG (cM cy ad) ad 40 σ) H → va_D A (wG (cM cy ad) ad 40 σ) → va_S A s.heap H locs → lv_has ls 7 [(0, .ref (ad 0)), (1, .int x1), (2, .int x2), (3, .int x3), (4, .int x4)] → W p l e (headSpec wsX12_movesBy ({ frames := 2, cells := 0, slots := 0, locals := 47 })).room s m (#[.ref (ad 0), .int a1]) below meth c H locs 0 0 (MQ below (va_Qi (fun (r : Int32) (_ : Unit) => r = r0) (fun (_ : Unit) t => wAt (dC, dI) A (wG (cM cy ad) ad 40 σ) t) A) (#[.ref (ad 0), .int a1]) s 0 0 A) (F0 m 7 ls [])) (n : Nat), ∀ (σ : S2) (x1 : Int32) (x2 : Int32) (x3 : Int32) (x4 : Int32) (x5 : Int32) (x6 : Int32) (H : Heap) (locs : List Loc) (ls : Array Slot), fX12_movesBy_44 k7 n σ x1 x2 x3 x4 x5 x6 = some r0 → va_P (dC, dI) vwCl (wG (cM cy ad) ad 40 σ) H → va_D A (wG (cM cy ad) ad 40 σ) → va_S A s.heap H locs → lv_has ls 7 [(0, .ref (ad 0)), (1, .int x1), (2, .int x2), (3, .int x3), (4, .int x4), (5, .int x5), (6, .int x6)] → W p l e (headSpec wsX12_movesBy ({ frames := 2, cells := 0, slots := 0, locals := 47 })).room s m (#[.ref (ad 0), .int a1]) below meth c H locs 0 0 (MQ below (va_Qi (fun (r : Int32) (_ : Unit) => r = r0) (fun (_ : Unit) t => wAt (dC, dI) A (wG (cM cy ad) ad 40 σ) t) A) (#[.ref (ad 0), .int a1]) s 0 0 A) (F0 m 44 ls []) := by
    intro k7 hk7 n
    induction n with
    | zero => intro σ x1 x2 x3 x4 x5 x6 H locs ls h; cases h
    | succ n ih =>
    intro σ x1 x2 x3 x4 x5 x6 H locs ls h hP hD hS hl
    unfold fX12_movesBy_44 at h
    refine lv_iload hx hb dX12_movesBy_44 (lv_at hl 6 rfl) ?_
    refine lv_aload_n hx hb dX12_movesBy_46 rfl (lv_at hl 0 rfl) ?_
    refine ux_get (D := (dC, dI)) (ci := 12) (v := .int (σ.1 0 0)) (C := RX12) (T := TX12) (M := 59) (fs := (oM ad (σ.1 0))) hx hb hts (fun _ h9 => List.mem_cons_of_mem _ (List.mem_append_right _ h9)) hown hK hP 0 (Nat.le_of_ble_eq_true rfl) rfl rfl 0 (by decide) (hts (.fieldLink RX12 133 "SeatsRoundModel" "names" "I") (List.mem_of_getElem? (i := 3) rfl)) (fun _ h9 => h9) rfl dX12_movesBy_47 ?_
    refine lv_icmp_ge (tgt := 93) hx hb dX12_movesBy_50 (by decide) (fun hcd => ?_) (fun hcd => ?_)
    · have h := cdP hcd h
      refine lv_iload hx hb dX12_movesBy_93 (lv_at hl 5 rfl) ?_
      refine lv_istore_n (lv' := [(3, .int x5), (0, .ref (ad 0)), (1, .int x1), (2, .int x2), (4, .int x4), (5, .int x5), (6, .int x6)]) hx hb dX12_movesBy_95 rfl hl (by decide) rfl (fun ls hl => ?_)
      have hl := lv_sub hl [1, 2, 3, 0, 4, 5, 6] (l' := [(0, .ref (ad 0)), (1, .int x1), (2, .int x2), (3, .int x5), (4, .int x4), (5, .int x5), (6, .int x6)]) rfl
      obtain ⟨v1, ev1⟩ : ∃ y : Int32, y = x4 + 1 := ⟨_, rfl⟩
      have h := nmS h ev1
      refine lv_iinc (v := v1) (lv' := [(4, .int v1), (0, .ref (ad 0)), (1, .int x1), (2, .int x2), (3, .int x5), (5, .int x5), (6, .int x6)]) hx hb dX12_movesBy_96 hl (k := 4) rfl (by rw [ev1]; rfl) (by decide) rfl (fun ls hl => ?_)
      have hl := lv_sub hl [1, 2, 3, 4, 0, 5, 6] (l' := [(0, .ref (ad 0)), (1, .int x1), (2, .int x2), (3, .int x5), (4, .int v1), (5, .int x5), (6, .int x6)]) rfl
      refine lv_goto (tgt := 7) hx hb dX12_movesBy_99 (by decide) ?_
      exact hk7 σ x1 x2 x5 v1 H locs ls h hP hD hS (lv_sub hl [0, 1, 2, 3, 4] rfl)
    · have h := cdN hcd h
      refine lv_iload_n hx hb dX12_movesBy_53 rfl (lv_at hl 2 rfl) ?_
      refine lv_aload_n hx hb dX12_movesBy_54 rfl (lv_at hl 0 rfl) ?_
      refine ux_get (D := (dC, dI)) (ci := 12) (v := .ref (ad 38)) (C := RX12) (T := TX12) (M := 59) (fs := (oM ad (σ.1 0))) hx hb hts (fun _ h9 => List.mem_cons_of_mem _ (List.mem_append_right _ h9)) hown hK hP 0 (Nat.le_of_ble_eq_true rfl) rfl rfl 57 (by decide) (hts (.fieldLink RX12 127 "SeatsRoundModel" "keepsBy" "[I") (List.mem_of_getElem? (i := 4) rfl)) (fun _ h9 => h9) rfl dX12_movesBy_55 ?_
      refine lv_bipush (v := 40) hx hb dX12_movesBy_58 (by decide) ?_
      refine lv_iload hx hb dX12_movesBy_60 (lv_at hl 5 rfl) ?_
      refine lv_imul hx hb dX12_movesBy_62 ?_
      refine lv_iload hx hb dX12_movesBy_63 (lv_at hl 6 rfl) ?_
      refine lv_iadd hx hb dX12_movesBy_65 ?_
      change W _ _ _ _ _ _ _ _ _ _ _ _ _ _ _ (F0 m 66 ls [.int ((40 * x5) + x6), .ref (ad 38), .int x2])
      refine ux_iald hx hb hK hP 38 0 (Nat.le_of_ble_eq_true rfl) (cM_38 _ _ _ _) rfl h dX12_movesBy_66 (fun v2 h => ?_)
      refine lv_aload_n hx hb dX12_movesBy_67 rfl (lv_at hl 0 rfl) ?_
      refine ux_get (D := (dC, dI)) (ci := 12) (v := .ref (ad 38)) (C := RX12) (T := TX12) (M := 59) (fs := (oM ad (σ.1 0))) hx hb hts (fun _ h9 => List.mem_cons_of_mem _ (List.mem_append_right _ h9)) hown hK hP 0 (Nat.le_of_ble_eq_true rfl) rfl rfl 57 (by decide) (hts (.fieldLink RX12 127 "SeatsRoundModel" "keepsBy" "[I") (List.mem_of_getElem? (i := 4) rfl)) (fun _ h9 => h9) rfl dX12_movesBy_68 ?_
      refine lv_bipush (v := 40) hx hb dX12_movesBy_71 (by decide) ?_
      refine lv_iload_n hx hb dX12_movesBy_73 rfl (lv_at hl 3 rfl) ?_
      refine lv_imul hx hb dX12_movesBy_74 ?_
      refine lv_iload hx hb dX12_movesBy_75 (lv_at hl 6 rfl) ?_
      refine lv_iadd hx hb dX12_movesBy_77 ?_
      refine ux_iald hx hb hK hP 38 0 (Nat.le_of_ble_eq_true rfl) (cM_38 _ _ _ _) rfl h dX12_movesBy_78 (fun v3 h => ?_)
      change W _ _ _ _ _ _ _ _ _ _ _ _ _ _ _ (F0 m 79 ls [.int v3, .int v2, .int x2])
      refine lv_iconst (v := (-1)) hx hb dX12_movesBy_79 (by decide) ?_
      refine lv_ixor hx hb dX12_movesBy_80 ?_
      refine lv_iand hx hb dX12_movesBy_81 ?_
      obtain ⟨r4, hf5, h⟩ := biS h
      refine ux_calli (va_runS (As := [.int (v2 &&& (v3 ^^^ (-1)))]) (rest := [.int x2]) ⟨hx, hb, hml, hown, hts⟩ (tX12_ones l dC dI cy ad σ (v2 &&& (v3 ^^^ (-1))) H.size r4 hf5) (va_cwS 1 hts gX12_movesBy_X12_ones rfl rfl rfl (by decide +kernel) ⟨Nat.le_of_ble_eq_true rfl, Nat.le_of_ble_eq_true rfl⟩) (wp_S hK hN hP hD) rfl rfl hl.1 rfl (lv_room (Nat.le_of_ble_eq_true rfl)) dX12_movesBy_82 ⟨Nat.le_of_ble_eq_true rfl, Nat.le_of_ble_eq_true rfl⟩) hD hS hA (fun H locs hP hD hS => ?_)
      refine lv_iadd hx hb dX12_movesBy_85 ?_
      refine lv_topi (fun v6 ev6 => ?_)
      have h := nmS h ev6
      refine lv_istore_n (lv' := [(2, .int v6), (0, .ref (ad 0)), (1, .int x1), (3, .int x3), (4, .int x4), (5, .int x5), (6, .int x6)]) hx hb dX12_movesBy_86 rfl hl (by decide) rfl (fun ls hl => ?_)
      have hl := lv_sub hl [1, 2, 0, 3, 4, 5, 6] (l' := [(0, .ref (ad 0)), (1, .int x1), (2, .int v6), (3, .int x3), (4, .int x4), (5, .int x5), (6, .int x6)]) rfl
      obtain ⟨v7, ev7⟩ : ∃ y : Int32, y = x6 + 1 := ⟨_, rfl⟩
      have h := nmS h ev7
      refine lv_iinc (v := v7) (lv' := [(6, .int v7), (0, .ref (ad 0)), (1, .int x1), (2, .int v6), (3, .int x3), (4, .int x4), (5, .int x5)]) hx hb dX12_movesBy_87 hl (k := 6) rfl (by rw [ev7]; rfl) (by decide) rfl (fun ls hl => ?_)
      have hl := lv_sub hl [1, 2, 3, 4, 5, 6, 0] (l' := [(0, .ref (ad 0)), (1, .int x1), (2, .int v6), (3, .int x3), (4, .int x4), (5, .int x5), (6, .int v7)]) rfl
      refine lv_goto (tgt := 44) hx hb dX12_movesBy_90 (by decide) ?_
      exact ih σ x1 v6 x3 x4 x5 v7 H locs ls h hP hD hS hl
  have w7 : ∀ (n : Nat), ∀ (σ : S2) (x1 : Int32) (x2 : Int32) (x3 : Int32) (x4 : Int32) (H : Heap) (locs : List Loc) (ls : Array Slot), fX12_movesBy_7 n σ x1 x2 x3 x4 = some r0 → va_P (dC, dI) vwCl (wG (cM cy ad) ad 40 σ) H → va_D A (wG (cM cy ad) ad 40 σ) → va_S A s.heap H locs → lv_has ls 7 [(0, .ref (ad 0)), (1, .int x1), (2, .int x2), (3, .int x3), (4, .int x4)] → W p l e (headSpec wsX12_movesBy ({ frames := 2, cells := 0, slots := 0, locals := 47 })).room s m (#[.ref (ad 0), .int a1]) below meth c H locs 0 0 (MQ below (va_Qi (fun (r : Int32) (_ : Unit) => r = r0) (fun (_ : Unit) t => wAt (dC, dI) A (wG (cM cy ad) ad 40 σ) t) A) (#[.ref (ad 0), .int a1]) s 0 0 A) (F0 m 7 ls []) := by
    intro n
    induction n with
    | zero => intro σ x1 x2 x3 x4 H locs ls h; cases h
    | succ n ih =>
    intro σ x1 x2 x3 x4 H locs ls h hP hD hS hl
    unfold fX12_movesBy_7 at h
    refine lv_iload hx hb dX12_movesBy_7 (lv_at hl 4 rfl) ?_
    refine lv_aload_n hx hb dX12_movesBy_9 rfl (lv_at hl 0 rfl) ?_
    refine ux_get (D := (dC, dI)) (ci := 12) (v := .int (σ.1 0 30)) (C := RX12) (T := TX12) (M := 59) (fs := (oM ad (σ.1 0))) hx hb hts (fun _ h9 => List.mem_cons_of_mem _ (List.mem_append_right _ h9)) hown hK hP 0 (Nat.le_of_ble_eq_true rfl) rfl rfl 30 (by decide) (hts (.fieldLink RX12 310 "SeatsRoundModel" "comers" "I") (List.mem_of_getElem? (i := 1) rfl)) (fun _ h9 => h9) rfl dX12_movesBy_10 ?_
    refine lv_icmp_ge (tgt := 102) hx hb dX12_movesBy_13 (by decide) (fun hcd => ?_) (fun hcd => ?_)
    · have h := cdP hcd h
      refine lv_iload_n hx hb dX12_movesBy_102 rfl (lv_at hl 2 rfl) ?_
      exact ux_iretP hx hb hr h hP hD hS hlocks dX12_movesBy_103
    · have h := cdN hcd h
      refine lv_iload_n hx hb dX12_movesBy_16 rfl (lv_at hl 3 rfl) ?_
      refine lv_iconst (v := 1) hx hb dX12_movesBy_17 (by decide) ?_
      refine lv_aload_n hx hb dX12_movesBy_18 rfl (lv_at hl 0 rfl) ?_
      refine ux_get (D := (dC, dI)) (ci := 12) (v := .ref (ad 39)) (C := RX12) (T := TX12) (M := 59) (fs := (oM ad (σ.1 0))) hx hb hts (fun _ h9 => List.mem_cons_of_mem _ (List.mem_append_right _ h9)) hown hK hP 0 (Nat.le_of_ble_eq_true rfl) rfl rfl 58 (by decide) (hts (.fieldLink RX12 130 "SeatsRoundModel" "tried" "[I") (List.mem_of_getElem? (i := 2) rfl)) (fun _ h9 => h9) rfl dX12_movesBy_19 ?_
      refine lv_iload hx hb dX12_movesBy_22 (lv_at hl 4 rfl) ?_
      refine ux_iald hx hb hK hP 39 0 (Nat.le_of_ble_eq_true rfl) (cM_39 _ _ _ _) rfl h dX12_movesBy_24 (fun v8 h => ?_)
      refine lv_ishl hx hb dX12_movesBy_25 ?_
      refine lv_ior hx hb dX12_movesBy_26 ?_
      refine lv_topi (fun v9 ev9 => ?_)
      have h := nmS h ev9
      refine lv_istore (lv' := [(5, .int v9), (0, .ref (ad 0)), (1, .int x1), (2, .int x2), (3, .int x3), (4, .int x4)]) hx hb dX12_movesBy_27 hl (by decide) rfl (fun ls hl => ?_)
      have hl := lv_sub hl [1, 2, 3, 4, 5, 0] (l' := [(0, .ref (ad 0)), (1, .int x1), (2, .int x2), (3, .int x3), (4, .int x4), (5, .int v9)]) rfl
      refine lv_aload_n hx hb dX12_movesBy_29 rfl (lv_at hl 0 rfl) ?_
      refine lv_iload_n hx hb dX12_movesBy_30 rfl (lv_at hl 1 rfl) ?_
      refine lv_iload hx hb dX12_movesBy_31 (lv_at hl 5 rfl) ?_
      obtain ⟨r10, hf11, h⟩ := biS h
      refine ux_calli (va_runV (As := [.int x1, .int v9]) (rest := []) ⟨hx, hb, hml, hown, hts⟩ (tX12_setBy l dC dI cy ad σ x1 v9 H.size r10 hf11) (cwV 2 hts gX12_movesBy_X12_setBy rfl rfl rfl (by decide +kernel) ⟨Nat.le_of_ble_eq_true rfl, Nat.le_of_ble_eq_true rfl⟩) (wp_V hK hN hP hD (va_recv hK hP (ci := 12) (q0 := 0) rfl (wG_of (Nat.le_of_ble_eq_true rfl) rfl))) rfl rfl hl.1 rfl (lv_room (Nat.le_of_ble_eq_true rfl)) dX12_movesBy_33 ⟨Nat.le_of_ble_eq_true rfl, Nat.le_of_ble_eq_true rfl⟩) hD hS hA (fun H locs hP hD hS => ?_)
      refine lv_if_ne (tgt := 41) hx hb dX12_movesBy_36 (by decide) (fun hcd => ?_) (fun hcd => ?_)
      · have h := cdN hcd h
        refine lv_iconst (v := 0) hx hb dX12_movesBy_41 (by decide) ?_
        refine lv_istore (lv' := [(6, .int 0), (0, .ref (ad 0)), (1, .int x1), (2, .int x2), (3, .int x3), (4, .int x4), (5, .int v9)]) hx hb dX12_movesBy_42 hl (by decide) rfl (fun ls hl => ?_)
        have hl := lv_sub hl [1, 2, 3, 4, 5, 6, 0] (l' := [(0, .ref (ad 0)), (1, .int x1), (2, .int x2), (3, .int x3), (4, .int x4), (5, .int v9), (6, .int 0)]) rfl
        exact w44 _ ih FU σ x1 x2 x3 x4 v9 0 H locs ls h hP hD hS hl
      · have h := cdP hcd h
        refine lv_iconst (v := (-1)) hx hb dX12_movesBy_39 (by decide) ?_
        exact ux_iretP hx hb hr h hP hD hS hlocks dX12_movesBy_40
  have w0 : ∀ (σ : S2) (x1 : Int32) (H : Heap) (locs : List Loc) (ls : Array Slot), fX12_movesBy_0 σ x1 = some r0 → va_P (dC, dI) vwCl (wG (cM cy ad) ad 40 σ) H → va_D A (wG (cM cy ad) ad 40 σ) → va_S A s.heap H locs → lv_has ls 7 [(0, .ref (ad 0)), (1, .int x1)] → W p l e (headSpec wsX12_movesBy ({ frames := 2, cells := 0, slots := 0, locals := 47 })).room s m (#[.ref (ad 0), .int a1]) below meth c H locs 0 0 (MQ below (va_Qi (fun (r : Int32) (_ : Unit) => r = r0) (fun (_ : Unit) t => wAt (dC, dI) A (wG (cM cy ad) ad 40 σ) t) A) (#[.ref (ad 0), .int a1]) s 0 0 A) (F0 m 0 ls []) := by
    intro σ x1 H locs ls h hP hD hS hl
    unfold fX12_movesBy_0 at h
    refine lv_iconst (v := 0) hx hb dX12_movesBy_0 (by decide) ?_
    refine lv_istore_n (lv' := [(2, .int 0), (0, .ref (ad 0)), (1, .int x1)]) hx hb dX12_movesBy_1 rfl hl (by decide) rfl (fun ls hl => ?_)
    have hl := lv_sub hl [1, 2, 0] (l' := [(0, .ref (ad 0)), (1, .int x1), (2, .int 0)]) rfl
    refine lv_iconst (v := 0) hx hb dX12_movesBy_2 (by decide) ?_
    refine lv_istore_n (lv' := [(3, .int 0), (0, .ref (ad 0)), (1, .int x1), (2, .int 0)]) hx hb dX12_movesBy_3 rfl hl (by decide) rfl (fun ls hl => ?_)
    have hl := lv_sub hl [1, 2, 3, 0] (l' := [(0, .ref (ad 0)), (1, .int x1), (2, .int 0), (3, .int 0)]) rfl
    refine lv_iconst (v := 0) hx hb dX12_movesBy_4 (by decide) ?_
    refine lv_istore (lv' := [(4, .int 0), (0, .ref (ad 0)), (1, .int x1), (2, .int 0), (3, .int 0)]) hx hb dX12_movesBy_5 hl (by decide) rfl (fun ls hl => ?_)
    have hl := lv_sub hl [1, 2, 3, 4, 0] (l' := [(0, .ref (ad 0)), (1, .int x1), (2, .int 0), (3, .int 0), (4, .int 0)]) rfl
    exact w7 FU σ x1 0 0 0 H locs ls h hP hD hS hl
  intro H locs ls h hP hD hS hl
  exact w0 σ a1 H locs ls h hP hD hS (lv_sub hl [0, 1] rfl)

set_option maxHeartbeats 4000000 in
set_option maxRecDepth 100000 in
theorem tX12_order (l : Launch) (dC : Nat → ClassId) (dI : Nat → Nat → Nat) (cy : Nat → ClassId) (ad : Nat → Nat) (σ : S2) (a1 : Int32) (sz : Nat) (r0 : Int32) (σ9 : S2) (h : fX12_order σ a1 = some (r0, σ9)) : Met l yX12_order wsX12_order ({ frames := 30, cells := 0, slots := 0, locals := 689 }) (va_Pc [.ref (ad 0), .int a1] (wPre (dC, dI) cy (wG (cM cy ad) ad 40 σ) sz)) (va_Qi (fun (r : Int32) (_ : Unit) => r = r0) (fun (_ : Unit) t => wAt (dC, dI) (va_A (wG (cM cy ad) ad 40 σ) sz) (wG (cM cy ad) ad 40 σ9) t) (va_A (wG (cM cy ad) ad 40 σ) sz)) 0 0 (va_A (wG (cM cy ad) ad 40 σ) sz) := by
  refine Met.ofW (cc := cX12_order) (maxL := 6) (ret := (some .int)) (by decide) rfl ?_
  intro p e s m args below meth c s₁ B hml hv
  obtain ⟨rfl, hsz, hP, hK, hD0, hN⟩ := hv
  have hx := B.exec
  have hb := B.bytes
  have hr := B.returns
  have hts := atoms_spec (ws := wsX12_order) B.pre
  have hown : s.vm.findClass RX12 = some m.cls := findClass_of_methodNamed B.named
  have hlocks := B.notSynchronized
  subst hsz
  have hD := hD0.self (sz := s.heap.size)
  generalize hAe : va_A (wG (cM cy ad) ad 40 σ) s.heap.size = A at hD ⊢
  have hA : ∀ q : Nat, s.heap.size ≤ q → A q := fun q h => by rw [← hAe]; exact Or.inr h
  have hS : va_S A s.heap s.heap [] := va_S.rf
  have hl := lv_entry ([.ref (ad 0), .int a1]) (n := 6) (Nat.le_of_ble_eq_true rfl)
  rw [lg_entry_eq]
  generalize (lg_sl ([.ref (ad 0), .int a1]) ++ List.replicate (6 - (lg_sl ([.ref (ad 0), .int a1])).length) Slot.unset).toArray = ls at hl ⊢
  have hl : lv_has ls 6 [(0, .ref (ad 0)), (1, .int a1)] := hl
  unfold fX12_order at h
  clear hAe hD0
  suffices HH : ∀ (H : Heap) (locs : List Loc) (ls : Array Slot), fX12_order_0 σ a1 = some (r0, σ9) → va_P (dC, dI) vwCl (wG (cM cy ad) ad 40 σ) H → va_D A (wG (cM cy ad) ad 40 σ) → va_S A s.heap H locs → lv_has ls 6 [(0, .ref (ad 0)), (1, .int a1)] → W p l e (headSpec wsX12_order ({ frames := 30, cells := 0, slots := 0, locals := 689 })).room s m (#[.ref (ad 0), .int a1]) below meth c H locs 0 0 (MQ below (va_Qi (fun (r : Int32) (_ : Unit) => r = r0) (fun (_ : Unit) t => wAt (dC, dI) A (wG (cM cy ad) ad 40 σ9) t) A) (#[.ref (ad 0), .int a1]) s 0 0 A) (F0 m 0 ls []) from HH s.heap [] ls h hP hD hS hl
  have w195 : ∀ (k126 : S2 → Int32 → Int32 → Int32 → Option (Int32 × S2)) (hk126 : ∀ (σ : S2) (x1 : Int32) (x2 : Int32) (x3 : Int32) (H : Heap) (locs : List Loc) (ls : Array Slot), k126 σ x1 x2 x3 = some (r0, σ9) → va_P (dC, dI) vwCl (wG (cM cy ad) ad 40 σ) H → va_D A (wG (cM cy ad) ad 40 σ) → va_S A s.heap H locs → lv_has ls 6 [(0, .ref (ad 0)), (1, .int x1), (2, .int x2), (3, .int x3)] → W p l e (headSpec wsX12_order ({ frames := 30, cells := 0, slots := 0, locals := 689 })).room s m (#[.ref (ad 0), .int a1]) below meth c H locs 0 0 (MQ below (va_Qi (fun (r : Int32) (_ : Unit) => r = r0) (fun (_ : Unit) t => wAt (dC, dI) A (wG (cM cy ad) ad 40 σ9) t) A) (#[.ref (ad 0), .int a1]) s 0 0 A) (F0 m 126 ls [])) , ∀ (σ : S2) (x1 : Int32) (x2 : Int32) (H : Heap) (locs : List Loc) (ls : Array Slot), fX12_order_195 k126 σ x1 x2 = some (r0, σ9) → va_P (dC, dI) vwCl (wG (cM cy ad) ad 40 σ) H → va_D A (wG (cM cy ad) ad 40 σ) → va_S A s.heap H locs → lv_has ls 6 [(0, .ref (ad 0)), (1, .int x1), (2, .int x2)] → W p l e (headSpec wsX12_order ({ frames := 30, cells := 0, slots := 0, locals := 689 })).room s m (#[.ref (ad 0), .int a1]) below meth c H locs 0 0 (MQ below (va_Qi (fun (r : Int32) (_ : Unit) => r = r0) (fun (_ : Unit) t => wAt (dC, dI) A (wG (cM cy ad) ad 40 σ9) t) A) (#[.ref (ad 0), .int a1]) s 0 0 A) (F0 m 195 ls []) := by
    intro k126 hk126 σ x1 x2 H locs ls h hP hD hS hl
    unfold fX12_order_195 at h
    refine lv_aload_n hx hb dX12_order_195 rfl (lv_at hl 0 rfl) ?_
    refine lv_aload_n hx hb dX12_order_196 rfl (lv_at hl 0 rfl) ?_
    refine ux_get (D := (dC, dI)) (ci := 12) (v := .int (σ.1 0 30)) (C := RX12) (T := TX12) (M := 59) (fs := (oM ad (σ.1 0))) hx hb hts (fun _ h9 => List.mem_cons_of_mem _ (List.mem_append_right _ h9)) hown hK hP 0 (Nat.le_of_ble_eq_true rfl) rfl rfl 30 (by decide) (hts (.fieldLink RX12 310 "SeatsRoundModel" "comers" "I") (List.mem_of_getElem? (i := 1) rfl)) (fun _ h9 => h9) rfl dX12_order_197 ?_
    obtain ⟨r1, σ2, hf3, h⟩ := bsS h
    refine ux_calli (va_runV (As := [.int (σ.1 0 30)]) (rest := []) ⟨hx, hb, hml, hown, hts⟩ (tX12_nextOrder l dC dI cy ad σ (σ.1 0 30) H.size r1 σ2 hf3) (cwV 1 hts gX12_order_X12_nextOrder rfl rfl rfl (by decide +kernel) ⟨Nat.le_of_ble_eq_true rfl, Nat.le_of_ble_eq_true rfl⟩) (wp_V hK hN hP hD (va_recv hK hP (ci := 12) (q0 := 0) rfl (wG_of (Nat.le_of_ble_eq_true rfl) rfl))) rfl rfl hl.1 rfl (lv_room (Nat.le_of_ble_eq_true rfl)) dX12_order_200 ⟨Nat.le_of_ble_eq_true rfl, Nat.le_of_ble_eq_true rfl⟩) hD hS hA (fun H locs hP hD hS => ?_)
    refine lv_istore_n (lv' := [(3, .int r1), (0, .ref (ad 0)), (1, .int x1), (2, .int x2)]) hx hb dX12_order_203 rfl hl (by decide) rfl (fun ls hl => ?_)
    have hl := lv_sub hl [1, 2, 3, 0] (l' := [(0, .ref (ad 0)), (1, .int x1), (2, .int x2), (3, .int r1)]) rfl
    refine lv_goto (tgt := 126) hx hb dX12_order_204 (by decide) ?_
    exact hk126 σ2 x1 x2 r1 H locs ls h hP hD hS hl
  have w166 : ∀ (k126 : S2 → Int32 → Int32 → Int32 → Option (Int32 × S2)) (hk126 : ∀ (σ : S2) (x1 : Int32) (x2 : Int32) (x3 : Int32) (H : Heap) (locs : List Loc) (ls : Array Slot), k126 σ x1 x2 x3 = some (r0, σ9) → va_P (dC, dI) vwCl (wG (cM cy ad) ad 40 σ) H → va_D A (wG (cM cy ad) ad 40 σ) → va_S A s.heap H locs → lv_has ls 6 [(0, .ref (ad 0)), (1, .int x1), (2, .int x2), (3, .int x3)] → W p l e (headSpec wsX12_order ({ frames := 30, cells := 0, slots := 0, locals := 689 })).room s m (#[.ref (ad 0), .int a1]) below meth c H locs 0 0 (MQ below (va_Qi (fun (r : Int32) (_ : Unit) => r = r0) (fun (_ : Unit) t => wAt (dC, dI) A (wG (cM cy ad) ad 40 σ9) t) A) (#[.ref (ad 0), .int a1]) s 0 0 A) (F0 m 126 ls [])) (n : Nat), ∀ (σ : S2) (x1 : Int32) (x2 : Int32) (x5 : Int32) (H : Heap) (locs : List Loc) (ls : Array Slot), fX12_order_166 k126 n σ x1 x2 x5 = some (r0, σ9) → va_P (dC, dI) vwCl (wG (cM cy ad) ad 40 σ) H → va_D A (wG (cM cy ad) ad 40 σ) → va_S A s.heap H locs → lv_has ls 6 [(0, .ref (ad 0)), (1, .int x1), (2, .int x2), (5, .int x5)] → W p l e (headSpec wsX12_order ({ frames := 30, cells := 0, slots := 0, locals := 689 })).room s m (#[.ref (ad 0), .int a1]) below meth c H locs 0 0 (MQ below (va_Qi (fun (r : Int32) (_ : Unit) => r = r0) (fun (_ : Unit) t => wAt (dC, dI) A (wG (cM cy ad) ad 40 σ9) t) A) (#[.ref (ad 0), .int a1]) s 0 0 A) (F0 m 166 ls []) := by
    intro k126 hk126 n
    induction n with
    | zero => intro σ x1 x2 x5 H locs ls h; cases h
    | succ n ih =>
    intro σ x1 x2 x5 H locs ls h hP hD hS hl
    unfold fX12_order_166 at h
    refine lv_iload hx hb dX12_order_166 (lv_at hl 3 rfl) ?_
    refine lv_aload_n hx hb dX12_order_168 rfl (lv_at hl 0 rfl) ?_
    refine ux_get (D := (dC, dI)) (ci := 12) (v := .int (σ.1 0 30)) (C := RX12) (T := TX12) (M := 59) (fs := (oM ad (σ.1 0))) hx hb hts (fun _ h9 => List.mem_cons_of_mem _ (List.mem_append_right _ h9)) hown hK hP 0 (Nat.le_of_ble_eq_true rfl) rfl rfl 30 (by decide) (hts (.fieldLink RX12 310 "SeatsRoundModel" "comers" "I") (List.mem_of_getElem? (i := 1) rfl)) (fun _ h9 => h9) rfl dX12_order_169 ?_
    refine lv_icmp_ge (tgt := 195) hx hb dX12_order_172 (by decide) (fun hcd => ?_) (fun hcd => ?_)
    · have h := cdP hcd h
      exact w195 _ hk126 σ x1 x2 H locs ls h hP hD hS (lv_sub hl [0, 1, 2] rfl)
    · have h := cdN hcd h
      refine lv_aload_n hx hb dX12_order_175 rfl (lv_at hl 0 rfl) ?_
      refine ux_get (D := (dC, dI)) (ci := 12) (v := .ref (ad 27)) (C := RX12) (T := TX12) (M := 59) (fs := (oM ad (σ.1 0))) hx hb hts (fun _ h9 => List.mem_cons_of_mem _ (List.mem_append_right _ h9)) hown hK hP 0 (Nat.le_of_ble_eq_true rfl) rfl rfl 33 (by decide) (hts (.fieldLink RX12 89 "SeatsRoundModel" "orderTold" "[I") (List.mem_of_getElem? (i := 7) rfl)) (fun _ h9 => h9) rfl dX12_order_176 ?_
      refine lv_iload hx hb dX12_order_179 (lv_at hl 3 rfl) ?_
      refine lv_aload_n hx hb dX12_order_181 rfl (lv_at hl 0 rfl) ?_
      refine ux_get (D := (dC, dI)) (ci := 12) (v := .ref (ad 39)) (C := RX12) (T := TX12) (M := 59) (fs := (oM ad (σ.1 0))) hx hb hts (fun _ h9 => List.mem_cons_of_mem _ (List.mem_append_right _ h9)) hown hK hP 0 (Nat.le_of_ble_eq_true rfl) rfl rfl 58 (by decide) (hts (.fieldLink RX12 130 "SeatsRoundModel" "tried" "[I") (List.mem_of_getElem? (i := 5) rfl)) (fun _ h9 => h9) rfl dX12_order_182 ?_
      refine lv_iload hx hb dX12_order_185 (lv_at hl 3 rfl) ?_
      refine ux_iald hx hb hK hP 39 0 (Nat.le_of_ble_eq_true rfl) (cM_39 _ _ _ _) rfl h dX12_order_187 (fun v4 h => ?_)
      refine ux_iast hx hb hK hP hD hS 27 0 (Nat.le_of_ble_eq_true rfl) (fun _ => (cM_27 _ _ _ _)) rfl h dX12_order_188 (fun σ5 H locs h hP hD hS => ?_)
      obtain ⟨v6, ev6⟩ : ∃ y : Int32, y = x5 + 1 := ⟨_, rfl⟩
      have h := nmS h ev6
      refine lv_iinc (v := v6) (lv' := [(5, .int v6), (0, .ref (ad 0)), (1, .int x1), (2, .int x2)]) hx hb dX12_order_189 hl (k := 3) rfl (by rw [ev6]; rfl) (by decide) rfl (fun ls hl => ?_)
      have hl := lv_sub hl [1, 2, 3, 0] (l' := [(0, .ref (ad 0)), (1, .int x1), (2, .int x2), (5, .int v6)]) rfl
      refine lv_goto (tgt := 166) hx hb dX12_order_192 (by decide) ?_
      exact ih σ5 x1 x2 v6 H locs ls h hP hD hS hl
  have w152 : ∀ (k126 : S2 → Int32 → Int32 → Int32 → Option (Int32 × S2)) (hk126 : ∀ (σ : S2) (x1 : Int32) (x2 : Int32) (x3 : Int32) (H : Heap) (locs : List Loc) (ls : Array Slot), k126 σ x1 x2 x3 = some (r0, σ9) → va_P (dC, dI) vwCl (wG (cM cy ad) ad 40 σ) H → va_D A (wG (cM cy ad) ad 40 σ) → va_S A s.heap H locs → lv_has ls 6 [(0, .ref (ad 0)), (1, .int x1), (2, .int x2), (3, .int x3)] → W p l e (headSpec wsX12_order ({ frames := 30, cells := 0, slots := 0, locals := 689 })).room s m (#[.ref (ad 0), .int a1]) below meth c H locs 0 0 (MQ below (va_Qi (fun (r : Int32) (_ : Unit) => r = r0) (fun (_ : Unit) t => wAt (dC, dI) A (wG (cM cy ad) ad 40 σ9) t) A) (#[.ref (ad 0), .int a1]) s 0 0 A) (F0 m 126 ls [])) , ∀ (σ : S2) (x1 : Int32) (x4 : Int32) (H : Heap) (locs : List Loc) (ls : Array Slot), fX12_order_152 k126 σ x1 x4 = some (r0, σ9) → va_P (dC, dI) vwCl (wG (cM cy ad) ad 40 σ) H → va_D A (wG (cM cy ad) ad 40 σ) → va_S A s.heap H locs → lv_has ls 6 [(0, .ref (ad 0)), (1, .int x1), (4, .int x4)] → W p l e (headSpec wsX12_order ({ frames := 30, cells := 0, slots := 0, locals := 689 })).room s m (#[.ref (ad 0), .int a1]) below meth c H locs 0 0 (MQ below (va_Qi (fun (r : Int32) (_ : Unit) => r = r0) (fun (_ : Unit) t => wAt (dC, dI) A (wG (cM cy ad) ad 40 σ9) t) A) (#[.ref (ad 0), .int a1]) s 0 0 A) (F0 m 152 ls []) := by
    intro k126 hk126 σ x1 x4 H locs ls h hP hD hS hl
    unfold fX12_order_152 at h
    refine lv_iload hx hb dX12_order_152 (lv_at hl 2 rfl) ?_
    refine lv_istore_n (lv' := [(2, .int x4), (0, .ref (ad 0)), (1, .int x1), (4, .int x4)]) hx hb dX12_order_154 rfl hl (by decide) rfl (fun ls hl => ?_)
    have hl := lv_sub hl [1, 2, 0, 3] (l' := [(0, .ref (ad 0)), (1, .int x1), (2, .int x4), (4, .int x4)]) rfl
    refine lv_aload_n hx hb dX12_order_155 rfl (lv_at hl 0 rfl) ?_
    refine lv_aload_n hx hb dX12_order_156 rfl (lv_at hl 0 rfl) ?_
    refine ux_get (D := (dC, dI)) (ci := 12) (v := .int (σ.1 0 30)) (C := RX12) (T := TX12) (M := 59) (fs := (oM ad (σ.1 0))) hx hb hts (fun _ h9 => List.mem_cons_of_mem _ (List.mem_append_right _ h9)) hown hK hP 0 (Nat.le_of_ble_eq_true rfl) rfl rfl 30 (by decide) (hts (.fieldLink RX12 310 "SeatsRoundModel" "comers" "I") (List.mem_of_getElem? (i := 1) rfl)) (fun _ h9 => h9) rfl dX12_order_157 ?_
    refine ux_put (D := (dC, dI)) (ci := 12) (C := RX12) (T := TX12) (M := 59) (fs := (oM ad (σ.1 0))) hx hb hts (fun _ h9 => List.mem_cons_of_mem _ (List.mem_append_right _ h9)) tyX12 tyX12_ok nmX12 hown hK hP hD hS 0 (Nat.le_of_ble_eq_true rfl) rfl rfl 32 (by decide) (hts (.fieldLink RX12 325 "SeatsRoundModel" "orderMany" "I") (List.mem_of_getElem? (i := 6) rfl)) (fun _ h9 => h9) rfl (tyX12_ok 32 (by decide)) rfl rfl (Nat.le_of_ble_eq_true rfl) (oM_set_32 _ _ _ _ _) h dX12_order_160 (fun σ7 H locs h hP hD hS => ?_)
    refine lv_iconst (v := 0) hx hb dX12_order_163 (by decide) ?_
    refine lv_istore (lv' := [(5, .int 0), (0, .ref (ad 0)), (1, .int x1), (2, .int x4), (4, .int x4)]) hx hb dX12_order_164 hl (by decide) rfl (fun ls hl => ?_)
    have hl := lv_sub hl [1, 2, 3, 4, 0] (l' := [(0, .ref (ad 0)), (1, .int x1), (2, .int x4), (4, .int x4), (5, .int 0)]) rfl
    exact w166 _ hk126 FU σ7 x1 x4 0 H locs ls h hP hD hS (lv_sub hl [0, 1, 2, 4] rfl)
  have w126 : ∀ (n : Nat), ∀ (σ : S2) (x1 : Int32) (x2 : Int32) (x3 : Int32) (H : Heap) (locs : List Loc) (ls : Array Slot), fX12_order_126 n σ x1 x2 x3 = some (r0, σ9) → va_P (dC, dI) vwCl (wG (cM cy ad) ad 40 σ) H → va_D A (wG (cM cy ad) ad 40 σ) → va_S A s.heap H locs → lv_has ls 6 [(0, .ref (ad 0)), (1, .int x1), (2, .int x2), (3, .int x3)] → W p l e (headSpec wsX12_order ({ frames := 30, cells := 0, slots := 0, locals := 689 })).room s m (#[.ref (ad 0), .int a1]) below meth c H locs 0 0 (MQ below (va_Qi (fun (r : Int32) (_ : Unit) => r = r0) (fun (_ : Unit) t => wAt (dC, dI) A (wG (cM cy ad) ad 40 σ9) t) A) (#[.ref (ad 0), .int a1]) s 0 0 A) (F0 m 126 ls []) := by
    intro n
    induction n with
    | zero => intro σ x1 x2 x3 H locs ls h; cases h
    | succ n ih =>
    intro σ x1 x2 x3 H locs ls h hP hD hS hl
    unfold fX12_order_126 at h
    refine lv_iload_n hx hb dX12_order_126 rfl (lv_at hl 3 rfl) ?_
    refine lv_if_eq (tgt := 207) hx hb dX12_order_127 (by decide) (fun hcd => ?_) (fun hcd => ?_)
    · have h := cdP hcd h
      refine lv_iload_n hx hb dX12_order_207 rfl (lv_at hl 2 rfl) ?_
      refine lv_if_ge (tgt := 214) hx hb dX12_order_208 (by decide) (fun hcd => ?_) (fun hcd => ?_)
      · have h := cdP hcd h
        refine lv_aload_n hx hb dX12_order_214 rfl (lv_at hl 0 rfl) ?_
        refine lv_iconst (v := 0) hx hb dX12_order_215 (by decide) ?_
        refine ux_put (D := (dC, dI)) (ci := 12) (C := RX12) (T := TX12) (M := 59) (fs := (oM ad (σ.1 0))) hx hb hts (fun _ h9 => List.mem_cons_of_mem _ (List.mem_append_right _ h9)) tyX12 tyX12_ok nmX12 hown hK hP hD hS 0 (Nat.le_of_ble_eq_true rfl) rfl rfl 30 (by decide) (hts (.fieldLink RX12 310 "SeatsRoundModel" "comers" "I") (List.mem_of_getElem? (i := 1) rfl)) (fun _ h9 => h9) rfl (tyX12_ok 30 (by decide)) rfl rfl (Nat.le_of_ble_eq_true rfl) (oM_set_30 _ _ _ _ _) h dX12_order_216 (fun σ8 H locs h hP hD hS => ?_)
        refine lv_iload_n hx hb dX12_order_219 rfl (lv_at hl 2 rfl) ?_
        exact ux_iret hx hb hr h hP hD hS hlocks dX12_order_220
      · have h := cdN hcd h
        refine lv_bipush (v := (-2)) hx hb dX12_order_211 (by decide) ?_
        exact ux_iret hx hb hr h hP hD hS hlocks dX12_order_213
    · have h := cdN hcd h
      refine lv_aload_n hx hb dX12_order_130 rfl (lv_at hl 0 rfl) ?_
      refine lv_iload_n hx hb dX12_order_131 rfl (lv_at hl 1 rfl) ?_
      obtain ⟨r9, hf10, h⟩ := biS h
      refine ux_calli (va_runV (As := [.int x1]) (rest := []) ⟨hx, hb, hml, hown, hts⟩ (tX12_movesBy l dC dI cy ad σ x1 H.size r9 hf10) (cwV 1 hts gX12_order_X12_movesBy rfl rfl rfl (by decide +kernel) ⟨Nat.le_of_ble_eq_true rfl, Nat.le_of_ble_eq_true rfl⟩) (wp_V hK hN hP hD (va_recv hK hP (ci := 12) (q0 := 0) rfl (wG_of (Nat.le_of_ble_eq_true rfl) rfl))) rfl rfl hl.1 rfl (lv_room (Nat.le_of_ble_eq_true rfl)) dX12_order_132 ⟨Nat.le_of_ble_eq_true rfl, Nat.le_of_ble_eq_true rfl⟩) hD hS hA (fun H locs hP hD hS => ?_)
      refine lv_istore (lv' := [(4, .int r9), (0, .ref (ad 0)), (1, .int x1), (2, .int x2), (3, .int x3)]) hx hb dX12_order_135 hl (by decide) rfl (fun ls hl => ?_)
      have hl := lv_sub hl [1, 2, 3, 4, 0] (l' := [(0, .ref (ad 0)), (1, .int x1), (2, .int x2), (3, .int x3), (4, .int r9)]) rfl
      refine lv_iload hx hb dX12_order_137 (lv_at hl 4 rfl) ?_
      refine lv_if_lt (tgt := 195) hx hb dX12_order_139 (by decide) (fun hcd => ?_) (fun hcd => ?_)
      · have h := cdP hcd h
        exact w195 _ ih σ x1 x2 H locs ls h hP hD hS (lv_sub hl [0, 1, 2] rfl)
      · have h := cdN hcd h
        refine lv_iload_n hx hb dX12_order_142 rfl (lv_at hl 2 rfl) ?_
        refine lv_if_lt (tgt := 152) hx hb dX12_order_143 (by decide) (fun hcd => ?_) (fun hcd => ?_)
        · have h := cdP hcd h
          exact w152 _ ih σ x1 r9 H locs ls h hP hD hS (lv_sub hl [0, 1, 4] rfl)
        · have h := cdN hcd h
          refine lv_iload hx hb dX12_order_146 (lv_at hl 4 rfl) ?_
          refine lv_iload_n hx hb dX12_order_148 rfl (lv_at hl 2 rfl) ?_
          refine lv_icmp_ge (tgt := 195) hx hb dX12_order_149 (by decide) (fun hcd => ?_) (fun hcd => ?_)
          · have h := cdP hcd h
            exact w195 _ ih σ x1 x2 H locs ls h hP hD hS (lv_sub hl [0, 1, 2] rfl)
          · have h := cdN hcd h
            exact w152 _ ih σ x1 r9 H locs ls h hP hD hS (lv_sub hl [0, 1, 4] rfl)
  have w101 : ∀ (n : Nat), ∀ (σ : S2) (x1 : Int32) (x2 : Int32) (H : Heap) (locs : List Loc) (ls : Array Slot), fX12_order_101 n σ x1 x2 = some (r0, σ9) → va_P (dC, dI) vwCl (wG (cM cy ad) ad 40 σ) H → va_D A (wG (cM cy ad) ad 40 σ) → va_S A s.heap H locs → lv_has ls 6 [(0, .ref (ad 0)), (1, .int x1), (2, .int x2)] → W p l e (headSpec wsX12_order ({ frames := 30, cells := 0, slots := 0, locals := 689 })).room s m (#[.ref (ad 0), .int a1]) below meth c H locs 0 0 (MQ below (va_Qi (fun (r : Int32) (_ : Unit) => r = r0) (fun (_ : Unit) t => wAt (dC, dI) A (wG (cM cy ad) ad 40 σ9) t) A) (#[.ref (ad 0), .int a1]) s 0 0 A) (F0 m 101 ls []) := by
    intro n
    induction n with
    | zero => intro σ x1 x2 H locs ls h; cases h
    | succ n ih =>
    intro σ x1 x2 H locs ls h hP hD hS hl
    unfold fX12_order_101 at h
    refine lv_iload_n hx hb dX12_order_101 rfl (lv_at hl 2 rfl) ?_
    refine lv_aload_n hx hb dX12_order_102 rfl (lv_at hl 0 rfl) ?_
    refine ux_get (D := (dC, dI)) (ci := 12) (v := .int (σ.1 0 30)) (C := RX12) (T := TX12) (M := 59) (fs := (oM ad (σ.1 0))) hx hb hts (fun _ h9 => List.mem_cons_of_mem _ (List.mem_append_right _ h9)) hown hK hP 0 (Nat.le_of_ble_eq_true rfl) rfl rfl 30 (by decide) (hts (.fieldLink RX12 310 "SeatsRoundModel" "comers" "I") (List.mem_of_getElem? (i := 1) rfl)) (fun _ h9 => h9) rfl dX12_order_103 ?_
    refine lv_icmp_ge (tgt := 122) hx hb dX12_order_106 (by decide) (fun hcd => ?_) (fun hcd => ?_)
    · have h := cdP hcd h
      refine lv_iconst (v := (-1)) hx hb dX12_order_122 (by decide) ?_
      refine lv_istore_n (lv' := [(2, .int (-1)), (0, .ref (ad 0)), (1, .int x1)]) hx hb dX12_order_123 rfl hl (by decide) rfl (fun ls hl => ?_)
      have hl := lv_sub hl [1, 2, 0] (l' := [(0, .ref (ad 0)), (1, .int x1), (2, .int (-1))]) rfl
      refine lv_iconst (v := 1) hx hb dX12_order_124 (by decide) ?_
      refine lv_istore_n (lv' := [(3, .int 1), (0, .ref (ad 0)), (1, .int x1), (2, .int (-1))]) hx hb dX12_order_125 rfl hl (by decide) rfl (fun ls hl => ?_)
      have hl := lv_sub hl [1, 2, 3, 0] (l' := [(0, .ref (ad 0)), (1, .int x1), (2, .int (-1)), (3, .int 1)]) rfl
      exact w126 FU σ x1 (-1) 1 H locs ls h hP hD hS hl
    · have h := cdN hcd h
      refine lv_aload_n hx hb dX12_order_109 rfl (lv_at hl 0 rfl) ?_
      refine ux_get (D := (dC, dI)) (ci := 12) (v := .ref (ad 39)) (C := RX12) (T := TX12) (M := 59) (fs := (oM ad (σ.1 0))) hx hb hts (fun _ h9 => List.mem_cons_of_mem _ (List.mem_append_right _ h9)) hown hK hP 0 (Nat.le_of_ble_eq_true rfl) rfl rfl 58 (by decide) (hts (.fieldLink RX12 130 "SeatsRoundModel" "tried" "[I") (List.mem_of_getElem? (i := 5) rfl)) (fun _ h9 => h9) rfl dX12_order_110 ?_
      refine lv_iload_n hx hb dX12_order_113 rfl (lv_at hl 2 rfl) ?_
      refine lv_iload_n hx hb dX12_order_114 rfl (lv_at hl 2 rfl) ?_
      refine ux_iast hx hb hK hP hD hS 39 0 (Nat.le_of_ble_eq_true rfl) (fun _ => (cM_39 _ _ _ _)) rfl h dX12_order_115 (fun σ11 H locs h hP hD hS => ?_)
      obtain ⟨v12, ev12⟩ : ∃ y : Int32, y = x2 + 1 := ⟨_, rfl⟩
      have h := nmS h ev12
      refine lv_iinc (v := v12) (lv' := [(2, .int v12), (0, .ref (ad 0)), (1, .int x1)]) hx hb dX12_order_116 hl (k := 2) rfl (by rw [ev12]; rfl) (by decide) rfl (fun ls hl => ?_)
      have hl := lv_sub hl [1, 2, 0] (l' := [(0, .ref (ad 0)), (1, .int x1), (2, .int v12)]) rfl
      refine lv_goto (tgt := 101) hx hb dX12_order_119 (by decide) ?_
      exact ih σ11 x1 v12 H locs ls h hP hD hS hl
  have w93 : ∀ (k19 : S2 → Int32 → Int32 → Option (Int32 × S2)) (hk19 : ∀ (σ : S2) (x1 : Int32) (x2 : Int32) (H : Heap) (locs : List Loc) (ls : Array Slot), k19 σ x1 x2 = some (r0, σ9) → va_P (dC, dI) vwCl (wG (cM cy ad) ad 40 σ) H → va_D A (wG (cM cy ad) ad 40 σ) → va_S A s.heap H locs → lv_has ls 6 [(0, .ref (ad 0)), (1, .int x1), (2, .int x2)] → W p l e (headSpec wsX12_order ({ frames := 30, cells := 0, slots := 0, locals := 689 })).room s m (#[.ref (ad 0), .int a1]) below meth c H locs 0 0 (MQ below (va_Qi (fun (r : Int32) (_ : Unit) => r = r0) (fun (_ : Unit) t => wAt (dC, dI) A (wG (cM cy ad) ad 40 σ9) t) A) (#[.ref (ad 0), .int a1]) s 0 0 A) (F0 m 19 ls [])) , ∀ (σ : S2) (x1 : Int32) (x2 : Int32) (H : Heap) (locs : List Loc) (ls : Array Slot), fX12_order_93 k19 σ x1 x2 = some (r0, σ9) → va_P (dC, dI) vwCl (wG (cM cy ad) ad 40 σ) H → va_D A (wG (cM cy ad) ad 40 σ) → va_S A s.heap H locs → lv_has ls 6 [(0, .ref (ad 0)), (1, .int x1), (2, .int x2)] → W p l e (headSpec wsX12_order ({ frames := 30, cells := 0, slots := 0, locals := 689 })).room s m (#[.ref (ad 0), .int a1]) below meth c H locs 0 0 (MQ below (va_Qi (fun (r : Int32) (_ : Unit) => r = r0) (fun (_ : Unit) t => wAt (dC, dI) A (wG (cM cy ad) ad 40 σ9) t) A) (#[.ref (ad 0), .int a1]) s 0 0 A) (F0 m 93 ls []) := by
    intro k19 hk19 σ x1 x2 H locs ls h hP hD hS hl
    unfold fX12_order_93 at h
    obtain ⟨v13, ev13⟩ : ∃ y : Int32, y = x2 + 1 := ⟨_, rfl⟩
    have h := nmS h ev13
    refine lv_iinc (v := v13) (lv' := [(2, .int v13), (0, .ref (ad 0)), (1, .int x1)]) hx hb dX12_order_93 hl (k := 2) rfl (by rw [ev13]; rfl) (by decide) rfl (fun ls hl => ?_)
    have hl := lv_sub hl [1, 2, 0] (l' := [(0, .ref (ad 0)), (1, .int x1), (2, .int v13)]) rfl
    refine lv_goto (tgt := 19) hx hb dX12_order_96 (by decide) ?_
    exact hk19 σ x1 v13 H locs ls h hP hD hS hl
  have w57 : ∀ (k19 : S2 → Int32 → Int32 → Option (Int32 × S2)) (hk19 : ∀ (σ : S2) (x1 : Int32) (x2 : Int32) (H : Heap) (locs : List Loc) (ls : Array Slot), k19 σ x1 x2 = some (r0, σ9) → va_P (dC, dI) vwCl (wG (cM cy ad) ad 40 σ) H → va_D A (wG (cM cy ad) ad 40 σ) → va_S A s.heap H locs → lv_has ls 6 [(0, .ref (ad 0)), (1, .int x1), (2, .int x2)] → W p l e (headSpec wsX12_order ({ frames := 30, cells := 0, slots := 0, locals := 689 })).room s m (#[.ref (ad 0), .int a1]) below meth c H locs 0 0 (MQ below (va_Qi (fun (r : Int32) (_ : Unit) => r = r0) (fun (_ : Unit) t => wAt (dC, dI) A (wG (cM cy ad) ad 40 σ9) t) A) (#[.ref (ad 0), .int a1]) s 0 0 A) (F0 m 19 ls [])) (n : Nat), ∀ (σ : S2) (x1 : Int32) (x2 : Int32) (x3 : Int32) (H : Heap) (locs : List Loc) (ls : Array Slot), fX12_order_57 k19 n σ x1 x2 x3 = some (r0, σ9) → va_P (dC, dI) vwCl (wG (cM cy ad) ad 40 σ) H → va_D A (wG (cM cy ad) ad 40 σ) → va_S A s.heap H locs → lv_has ls 6 [(0, .ref (ad 0)), (1, .int x1), (2, .int x2), (3, .int x3)] → W p l e (headSpec wsX12_order ({ frames := 30, cells := 0, slots := 0, locals := 689 })).room s m (#[.ref (ad 0), .int a1]) below meth c H locs 0 0 (MQ below (va_Qi (fun (r : Int32) (_ : Unit) => r = r0) (fun (_ : Unit) t => wAt (dC, dI) A (wG (cM cy ad) ad 40 σ9) t) A) (#[.ref (ad 0), .int a1]) s 0 0 A) (F0 m 57 ls []) := by
    intro k19 hk19 n
    induction n with
    | zero => intro σ x1 x2 x3 H locs ls h; cases h
    | succ n ih =>
    intro σ x1 x2 x3 H locs ls h hP hD hS hl
    unfold fX12_order_57 at h
    refine lv_iload_n hx hb dX12_order_57 rfl (lv_at hl 3 rfl) ?_
    refine lv_aload_n hx hb dX12_order_58 rfl (lv_at hl 0 rfl) ?_
    refine ux_get (D := (dC, dI)) (ci := 12) (v := .int (σ.1 0 0)) (C := RX12) (T := TX12) (M := 59) (fs := (oM ad (σ.1 0))) hx hb hts (fun _ h9 => List.mem_cons_of_mem _ (List.mem_append_right _ h9)) hown hK hP 0 (Nat.le_of_ble_eq_true rfl) rfl rfl 0 (by decide) (hts (.fieldLink RX12 133 "SeatsRoundModel" "names" "I") (List.mem_of_getElem? (i := 3) rfl)) (fun _ h9 => h9) rfl dX12_order_59 ?_
    refine lv_icmp_ge (tgt := 93) hx hb dX12_order_62 (by decide) (fun hcd => ?_) (fun hcd => ?_)
    · have h := cdP hcd h
      exact w93 _ hk19 σ x1 x2 H locs ls h hP hD hS (lv_sub hl [0, 1, 2] rfl)
    · have h := cdN hcd h
      refine lv_aload_n hx hb dX12_order_65 rfl (lv_at hl 0 rfl) ?_
      refine lv_bipush (v := 10) hx hb dX12_order_66 (by decide) ?_
      refine lv_iload_n hx hb dX12_order_68 rfl (lv_at hl 3 rfl) ?_
      obtain ⟨r14, σ15, hf16, h⟩ := bsS h
      refine ux_callv (va_runV (As := [.int 10, .int x3]) (rest := []) ⟨hx, hb, hml, hown, hts⟩ (tX12_chooseName l dC dI cy ad σ 10 x3 H.size r14 σ15 hf16) (cwV 2 hts gX12_order_X12_chooseName rfl rfl rfl (by decide +kernel) ⟨Nat.le_of_ble_eq_true rfl, Nat.le_of_ble_eq_true rfl⟩) (wp_V hK hN hP hD (va_recv hK hP (ci := 12) (q0 := 0) rfl (wG_of (Nat.le_of_ble_eq_true rfl) rfl))) rfl rfl hl.1 rfl (lv_room (Nat.le_of_ble_eq_true rfl)) dX12_order_69 ⟨Nat.le_of_ble_eq_true rfl, Nat.le_of_ble_eq_true rfl⟩) hD hS hA (fun H locs hP hD hS => ?_)
      refine lv_aload_n hx hb dX12_order_72 rfl (lv_at hl 0 rfl) ?_
      refine ux_get (D := (dC, dI)) (ci := 12) (v := .ref (ad 38)) (C := RX12) (T := TX12) (M := 59) (fs := (oM ad (σ15.1 0))) hx hb hts (fun _ h9 => List.mem_cons_of_mem _ (List.mem_append_right _ h9)) hown hK hP 0 (Nat.le_of_ble_eq_true rfl) rfl rfl 57 (by decide) (hts (.fieldLink RX12 127 "SeatsRoundModel" "keepsBy" "[I") (List.mem_of_getElem? (i := 4) rfl)) (fun _ h9 => h9) rfl dX12_order_73 ?_
      refine lv_bipush (v := 40) hx hb dX12_order_76 (by decide) ?_
      refine lv_iload_n hx hb dX12_order_78 rfl (lv_at hl 2 rfl) ?_
      refine lv_imul hx hb dX12_order_79 ?_
      refine lv_iload_n hx hb dX12_order_80 rfl (lv_at hl 3 rfl) ?_
      refine lv_iadd hx hb dX12_order_81 ?_
      refine lv_aload_n hx hb dX12_order_82 rfl (lv_at hl 0 rfl) ?_
      change W _ _ _ _ _ _ _ _ _ _ _ _ _ _ _ (F0 m 83 ls [.ref (ad 0), .int ((40 * x2) + x3), .ref (ad 38)])
      obtain ⟨r17, hf18, h⟩ := biS h
      refine ux_calli (va_runV (As := []) (rest := [.int ((40 * x2) + x3), .ref (ad 38)]) ⟨hx, hb, hml, hown, hts⟩ (tX12_bits l dC dI cy ad σ15 H.size r17 hf18) (cwV 0 hts gX12_order_X12_bits rfl rfl rfl (by decide +kernel) ⟨Nat.le_of_ble_eq_true rfl, Nat.le_of_ble_eq_true rfl⟩) (wp_V hK hN hP hD (va_recv hK hP (ci := 12) (q0 := 0) rfl (wG_of (Nat.le_of_ble_eq_true rfl) rfl))) rfl rfl hl.1 rfl (lv_room (Nat.le_of_ble_eq_true rfl)) dX12_order_83 ⟨Nat.le_of_ble_eq_true rfl, Nat.le_of_ble_eq_true rfl⟩) hD hS hA (fun H locs hP hD hS => ?_)
      refine ux_iast hx hb hK hP hD hS 38 0 (Nat.le_of_ble_eq_true rfl) (fun _ => (cM_38 _ _ _ _)) rfl h dX12_order_86 (fun σ19 H locs h hP hD hS => ?_)
      obtain ⟨v20, ev20⟩ : ∃ y : Int32, y = x3 + 1 := ⟨_, rfl⟩
      have h := nmS h ev20
      refine lv_iinc (v := v20) (lv' := [(3, .int v20), (0, .ref (ad 0)), (1, .int x1), (2, .int x2)]) hx hb dX12_order_87 hl (k := 3) rfl (by rw [ev20]; rfl) (by decide) rfl (fun ls hl => ?_)
      have hl := lv_sub hl [1, 2, 3, 0] (l' := [(0, .ref (ad 0)), (1, .int x1), (2, .int x2), (3, .int v20)]) rfl
      refine lv_goto (tgt := 57) hx hb dX12_order_90 (by decide) ?_
      exact ih σ19 x1 x2 v20 H locs ls h hP hD hS hl
  have w19 : ∀ (n : Nat), ∀ (σ : S2) (x1 : Int32) (x2 : Int32) (H : Heap) (locs : List Loc) (ls : Array Slot), fX12_order_19 n σ x1 x2 = some (r0, σ9) → va_P (dC, dI) vwCl (wG (cM cy ad) ad 40 σ) H → va_D A (wG (cM cy ad) ad 40 σ) → va_S A s.heap H locs → lv_has ls 6 [(0, .ref (ad 0)), (1, .int x1), (2, .int x2)] → W p l e (headSpec wsX12_order ({ frames := 30, cells := 0, slots := 0, locals := 689 })).room s m (#[.ref (ad 0), .int a1]) below meth c H locs 0 0 (MQ below (va_Qi (fun (r : Int32) (_ : Unit) => r = r0) (fun (_ : Unit) t => wAt (dC, dI) A (wG (cM cy ad) ad 40 σ9) t) A) (#[.ref (ad 0), .int a1]) s 0 0 A) (F0 m 19 ls []) := by
    intro n
    induction n with
    | zero => intro σ x1 x2 H locs ls h; cases h
    | succ n ih =>
    intro σ x1 x2 H locs ls h hP hD hS hl
    unfold fX12_order_19 at h
    refine lv_iload_n hx hb dX12_order_19 rfl (lv_at hl 2 rfl) ?_
    refine lv_iconst (v := 1) hx hb dX12_order_20 (by decide) ?_
    refine lv_aload_n hx hb dX12_order_21 rfl (lv_at hl 0 rfl) ?_
    refine ux_get (D := (dC, dI)) (ci := 12) (v := .int (σ.1 0 30)) (C := RX12) (T := TX12) (M := 59) (fs := (oM ad (σ.1 0))) hx hb hts (fun _ h9 => List.mem_cons_of_mem _ (List.mem_append_right _ h9)) hown hK hP 0 (Nat.le_of_ble_eq_true rfl) rfl rfl 30 (by decide) (hts (.fieldLink RX12 310 "SeatsRoundModel" "comers" "I") (List.mem_of_getElem? (i := 1) rfl)) (fun _ h9 => h9) rfl dX12_order_22 ?_
    refine lv_ishl hx hb dX12_order_25 ?_
    refine lv_icmp_ge (tgt := 99) hx hb dX12_order_26 (by decide) (fun hcd => ?_) (fun hcd => ?_)
    · have h := cdP hcd h
      refine lv_iconst (v := 0) hx hb dX12_order_99 (by decide) ?_
      refine lv_istore_n (lv' := [(2, .int 0), (0, .ref (ad 0)), (1, .int x1)]) hx hb dX12_order_100 rfl hl (by decide) rfl (fun ls hl => ?_)
      have hl := lv_sub hl [1, 2, 0] (l' := [(0, .ref (ad 0)), (1, .int x1), (2, .int 0)]) rfl
      exact w101 FU σ x1 0 H locs ls h hP hD hS hl
    · have h := cdN hcd h
      refine lv_aload_n hx hb dX12_order_29 rfl (lv_at hl 0 rfl) ?_
      refine lv_iload_n hx hb dX12_order_30 rfl (lv_at hl 1 rfl) ?_
      refine lv_iload_n hx hb dX12_order_31 rfl (lv_at hl 2 rfl) ?_
      obtain ⟨r21, hf22, h⟩ := biS h
      refine ux_calli (va_runV (As := [.int x1, .int x2]) (rest := []) ⟨hx, hb, hml, hown, hts⟩ (tX12_setBy l dC dI cy ad σ x1 x2 H.size r21 hf22) (cwV 2 hts gX12_order_X12_setBy rfl rfl rfl (by decide +kernel) ⟨Nat.le_of_ble_eq_true rfl, Nat.le_of_ble_eq_true rfl⟩) (wp_V hK hN hP hD (va_recv hK hP (ci := 12) (q0 := 0) rfl (wG_of (Nat.le_of_ble_eq_true rfl) rfl))) rfl rfl hl.1 rfl (lv_room (Nat.le_of_ble_eq_true rfl)) dX12_order_32 ⟨Nat.le_of_ble_eq_true rfl, Nat.le_of_ble_eq_true rfl⟩) hD hS hA (fun H locs hP hD hS => ?_)
      refine lv_if_eq (tgt := 93) hx hb dX12_order_35 (by decide) (fun hcd => ?_) (fun hcd => ?_)
      · have h := cdP hcd h
        exact w93 _ ih σ x1 x2 H locs ls h hP hD hS hl
      · have h := cdN hcd h
        refine lv_aload_n hx hb dX12_order_38 rfl (lv_at hl 0 rfl) ?_
        refine lv_iload_n hx hb dX12_order_39 rfl (lv_at hl 1 rfl) ?_
        refine lv_aload_n hx hb dX12_order_40 rfl (lv_at hl 0 rfl) ?_
        refine lv_iload_n hx hb dX12_order_41 rfl (lv_at hl 1 rfl) ?_
        refine lv_iload_n hx hb dX12_order_42 rfl (lv_at hl 2 rfl) ?_
        obtain ⟨r23, hf24, h⟩ := biS h
        refine ux_calli (va_runV (As := [.int x1, .int x2]) (rest := [.int x1, .ref (ad 0)]) ⟨hx, hb, hml, hown, hts⟩ (tX12_setBy l dC dI cy ad σ x1 x2 H.size r23 hf24) (cwV 2 hts gX12_order_X12_setBy rfl rfl rfl (by decide +kernel) ⟨Nat.le_of_ble_eq_true rfl, Nat.le_of_ble_eq_true rfl⟩) (wp_V hK hN hP hD (va_recv hK hP (ci := 12) (q0 := 0) rfl (wG_of (Nat.le_of_ble_eq_true rfl) rfl))) rfl rfl hl.1 rfl (lv_room (Nat.le_of_ble_eq_true rfl)) dX12_order_43 ⟨Nat.le_of_ble_eq_true rfl, Nat.le_of_ble_eq_true rfl⟩) hD hS hA (fun H locs hP hD hS => ?_)
        refine lv_aload_n hx hb dX12_order_46 rfl (lv_at hl 0 rfl) ?_
        refine ux_get (D := (dC, dI)) (ci := 12) (v := .ref (ad 9)) (C := RX12) (T := TX12) (M := 59) (fs := (oM ad (σ.1 0))) hx hb hts (fun _ h9 => List.mem_cons_of_mem _ (List.mem_append_right _ h9)) hown hK hP 0 (Nat.le_of_ble_eq_true rfl) rfl rfl 11 (by decide) (hts (.fieldLink RX12 35 "SeatsRoundModel" "tableZ" "[I") (List.mem_of_getElem? (i := 2) rfl)) (fun _ h9 => h9) rfl dX12_order_47 ?_
        refine lv_iload_n hx hb dX12_order_50 rfl (lv_at hl 1 rfl) ?_
        refine ux_iald hx hb hK hP 9 0 (Nat.le_of_ble_eq_true rfl) (cM_9 _ _ _ _) rfl h dX12_order_51 (fun v25 h => ?_)
        obtain ⟨r26, σ27, hf28, h⟩ := bsS h
        refine ux_callv (va_runV (As := [.int x1, .int r23, .int v25]) (rest := []) ⟨hx, hb, hml, hown, hts⟩ (tX12_tries l dC dI cy ad σ x1 r23 v25 H.size r26 σ27 hf28) (cwV 3 hts gX12_order_X12_tries rfl rfl rfl (by decide +kernel) ⟨Nat.le_of_ble_eq_true rfl, Nat.le_of_ble_eq_true rfl⟩) (wp_V hK hN hP hD (va_recv hK hP (ci := 12) (q0 := 0) rfl (wG_of (Nat.le_of_ble_eq_true rfl) rfl))) rfl rfl hl.1 rfl (lv_room (Nat.le_of_ble_eq_true rfl)) dX12_order_52 ⟨Nat.le_of_ble_eq_true rfl, Nat.le_of_ble_eq_true rfl⟩) hD hS hA (fun H locs hP hD hS => ?_)
        refine lv_iconst (v := 0) hx hb dX12_order_55 (by decide) ?_
        refine lv_istore_n (lv' := [(3, .int 0), (0, .ref (ad 0)), (1, .int x1), (2, .int x2)]) hx hb dX12_order_56 rfl hl (by decide) rfl (fun ls hl => ?_)
        have hl := lv_sub hl [1, 2, 3, 0] (l' := [(0, .ref (ad 0)), (1, .int x1), (2, .int x2), (3, .int 0)]) rfl
        exact w57 _ ih FU σ27 x1 x2 0 H locs ls h hP hD hS hl
  have w0 : ∀ (σ : S2) (x1 : Int32) (H : Heap) (locs : List Loc) (ls : Array Slot), fX12_order_0 σ x1 = some (r0, σ9) → va_P (dC, dI) vwCl (wG (cM cy ad) ad 40 σ) H → va_D A (wG (cM cy ad) ad 40 σ) → va_S A s.heap H locs → lv_has ls 6 [(0, .ref (ad 0)), (1, .int x1)] → W p l e (headSpec wsX12_order ({ frames := 30, cells := 0, slots := 0, locals := 689 })).room s m (#[.ref (ad 0), .int a1]) below meth c H locs 0 0 (MQ below (va_Qi (fun (r : Int32) (_ : Unit) => r = r0) (fun (_ : Unit) t => wAt (dC, dI) A (wG (cM cy ad) ad 40 σ9) t) A) (#[.ref (ad 0), .int a1]) s 0 0 A) (F0 m 0 ls []) := by
    intro σ x1 H locs ls h hP hD hS hl
    unfold fX12_order_0 at h
    refine lv_aload_n hx hb dX12_order_0 rfl (lv_at hl 0 rfl) ?_
    refine lv_iload_n hx hb dX12_order_1 rfl (lv_at hl 1 rfl) ?_
    obtain ⟨r29, hf30, h⟩ := biS h
    refine ux_calli (va_runV (As := [.int x1]) (rest := []) ⟨hx, hb, hml, hown, hts⟩ (tX12_isTable l dC dI cy ad σ x1 H.size r29 hf30) (cwV 1 hts gX12_order_X12_isTable rfl rfl rfl (by decide +kernel) ⟨Nat.le_of_ble_eq_true rfl, Nat.le_of_ble_eq_true rfl⟩) (wp_V hK hN hP hD (va_recv hK hP (ci := 12) (q0 := 0) rfl (wG_of (Nat.le_of_ble_eq_true rfl) rfl))) rfl rfl hl.1 rfl (lv_room (Nat.le_of_ble_eq_true rfl)) dX12_order_2 ⟨Nat.le_of_ble_eq_true rfl, Nat.le_of_ble_eq_true rfl⟩) hD hS hA (fun H locs hP hD hS => ?_)
    refine lv_if_eq (tgt := 15) hx hb dX12_order_5 (by decide) (fun hcd => ?_) (fun hcd => ?_)
    · have h := cdP hcd h
      refine lv_iconst (v := (-1)) hx hb dX12_order_15 (by decide) ?_
      exact ux_iret hx hb hr h hP hD hS hlocks dX12_order_16
    · have h := cdN hcd h
      refine lv_aload_n hx hb dX12_order_8 rfl (lv_at hl 0 rfl) ?_
      refine ux_get (D := (dC, dI)) (ci := 12) (v := .int (σ.1 0 30)) (C := RX12) (T := TX12) (M := 59) (fs := (oM ad (σ.1 0))) hx hb hts (fun _ h9 => List.mem_cons_of_mem _ (List.mem_append_right _ h9)) hown hK hP 0 (Nat.le_of_ble_eq_true rfl) rfl rfl 30 (by decide) (hts (.fieldLink RX12 310 "SeatsRoundModel" "comers" "I") (List.mem_of_getElem? (i := 1) rfl)) (fun _ h9 => h9) rfl dX12_order_9 ?_
      refine lv_if_ne (tgt := 17) hx hb dX12_order_12 (by decide) (fun hcd => ?_) (fun hcd => ?_)
      · have h := cdN hcd h
        refine lv_iconst (v := 0) hx hb dX12_order_17 (by decide) ?_
        refine lv_istore_n (lv' := [(2, .int 0), (0, .ref (ad 0)), (1, .int x1)]) hx hb dX12_order_18 rfl hl (by decide) rfl (fun ls hl => ?_)
        have hl := lv_sub hl [1, 2, 0] (l' := [(0, .ref (ad 0)), (1, .int x1), (2, .int 0)]) rfl
        exact w19 FU σ x1 0 H locs ls h hP hD hS hl
      · have h := cdP hcd h
        refine lv_iconst (v := (-1)) hx hb dX12_order_15 (by decide) ?_
        exact ux_iret hx hb hr h hP hD hS hlocks dX12_order_16
  intro H locs ls h hP hD hS hl
  exact w0 σ a1 H locs ls h hP hD hS (lv_sub hl [0, 1] rfl)

set_option maxHeartbeats 4000000 in
set_option maxRecDepth 100000 in
theorem tX12_ordered (l : Launch) (dC : Nat → ClassId) (dI : Nat → Nat → Nat) (cy : Nat → ClassId) (ad : Nat → Nat) (σ : S2) (a1 : Int32) (sz : Nat) (r0 : Int32) (h : fX12_ordered σ a1 = some r0) : Met l yX12_ordered wsX12_ordered ({ frames := 2, cells := 0, slots := 0, locals := 45 }) (va_Pc [.ref (ad 0), .int a1] (wPre (dC, dI) cy (wG (cM cy ad) ad 40 σ) sz)) (va_Qi (fun (r : Int32) (_ : Unit) => r = r0) (fun (_ : Unit) t => wAt (dC, dI) (va_A (wG (cM cy ad) ad 40 σ) sz) (wG (cM cy ad) ad 40 σ) t) (va_A (wG (cM cy ad) ad 40 σ) sz)) 0 0 (va_A (wG (cM cy ad) ad 40 σ) sz) := by
  refine Met.ofW (cc := cX12_ordered) (maxL := 2) (ret := (some .int)) (by decide) rfl ?_
  intro p e s m args below meth c s₁ B hml hv
  obtain ⟨rfl, hsz, hP, hK, hD0, hN⟩ := hv
  have hx := B.exec
  have hb := B.bytes
  have hr := B.returns
  have hts := atoms_spec (ws := wsX12_ordered) B.pre
  have hown : s.vm.findClass RX12 = some m.cls := findClass_of_methodNamed B.named
  have hlocks := B.notSynchronized
  subst hsz
  have hD := hD0.self (sz := s.heap.size)
  generalize hAe : va_A (wG (cM cy ad) ad 40 σ) s.heap.size = A at hD ⊢
  have hA : ∀ q : Nat, s.heap.size ≤ q → A q := fun q h => by rw [← hAe]; exact Or.inr h
  have hS : va_S A s.heap s.heap [] := va_S.rf
  have hl := lv_entry ([.ref (ad 0), .int a1]) (n := 2) (Nat.le_of_ble_eq_true rfl)
  rw [lg_entry_eq]
  generalize (lg_sl ([.ref (ad 0), .int a1]) ++ List.replicate (2 - (lg_sl ([.ref (ad 0), .int a1])).length) Slot.unset).toArray = ls at hl ⊢
  have hl : lv_has ls 2 [(0, .ref (ad 0)), (1, .int a1)] := hl
  unfold fX12_ordered at h
  clear hAe hD0
  suffices HH : ∀ (H : Heap) (locs : List Loc) (ls : Array Slot), fX12_ordered_0 σ a1 = some r0 → va_P (dC, dI) vwCl (wG (cM cy ad) ad 40 σ) H → va_D A (wG (cM cy ad) ad 40 σ) → va_S A s.heap H locs → lv_has ls 2 [(0, .ref (ad 0)), (1, .int a1)] → W p l e (headSpec wsX12_ordered ({ frames := 2, cells := 0, slots := 0, locals := 45 })).room s m (#[.ref (ad 0), .int a1]) below meth c H locs 0 0 (MQ below (va_Qi (fun (r : Int32) (_ : Unit) => r = r0) (fun (_ : Unit) t => wAt (dC, dI) A (wG (cM cy ad) ad 40 σ) t) A) (#[.ref (ad 0), .int a1]) s 0 0 A) (F0 m 0 ls []) from HH s.heap [] ls h hP hD hS hl
  have w0 : ∀ (σ : S2) (x1 : Int32) (H : Heap) (locs : List Loc) (ls : Array Slot), fX12_ordered_0 σ x1 = some r0 → va_P (dC, dI) vwCl (wG (cM cy ad) ad 40 σ) H → va_D A (wG (cM cy ad) ad 40 σ) → va_S A s.heap H locs → lv_has ls 2 [(0, .ref (ad 0)), (1, .int x1)] → W p l e (headSpec wsX12_ordered ({ frames := 2, cells := 0, slots := 0, locals := 45 })).room s m (#[.ref (ad 0), .int a1]) below meth c H locs 0 0 (MQ below (va_Qi (fun (r : Int32) (_ : Unit) => r = r0) (fun (_ : Unit) t => wAt (dC, dI) A (wG (cM cy ad) ad 40 σ) t) A) (#[.ref (ad 0), .int a1]) s 0 0 A) (F0 m 0 ls []) := by
    intro σ x1 H locs ls h hP hD hS hl
    unfold fX12_ordered_0 at h
    refine lv_iload_n hx hb dX12_ordered_0 rfl (lv_at hl 1 rfl) ?_
    refine lv_iconst (v := 0) hx hb dX12_ordered_1 (by decide) ?_
    refine lv_aload_n hx hb dX12_ordered_2 rfl (lv_at hl 0 rfl) ?_
    refine ux_get (D := (dC, dI)) (ci := 12) (v := .int (σ.1 0 32)) (C := RX12) (T := TX12) (M := 59) (fs := (oM ad (σ.1 0))) hx hb hts (fun _ h9 => List.mem_cons_of_mem _ (List.mem_append_right _ h9)) hown hK hP 0 (Nat.le_of_ble_eq_true rfl) rfl rfl 32 (by decide) (hts (.fieldLink RX12 325 "SeatsRoundModel" "orderMany" "I") (List.mem_of_getElem? (i := 1) rfl)) (fun _ h9 => h9) rfl dX12_ordered_3 ?_
    refine lv_iconst (v := 1) hx hb dX12_ordered_6 (by decide) ?_
    refine lv_isub hx hb dX12_ordered_7 ?_
    obtain ⟨r1, hf2, h⟩ := biS h
    refine ux_calli (va_runS (As := [.int x1, .int 0, .int ((σ.1 0 32) - 1)]) (rest := []) ⟨hx, hb, hml, hown, hts⟩ (tX12_in l dC dI cy ad σ x1 0 ((σ.1 0 32) - 1) H.size r1 hf2) (va_cwS 3 hts gX12_ordered_X12_in rfl rfl rfl (by decide +kernel) ⟨Nat.le_of_ble_eq_true rfl, Nat.le_of_ble_eq_true rfl⟩) (wp_S hK hN hP hD) rfl rfl hl.1 rfl (lv_room (Nat.le_of_ble_eq_true rfl)) dX12_ordered_8 ⟨Nat.le_of_ble_eq_true rfl, Nat.le_of_ble_eq_true rfl⟩) hD hS hA (fun H locs hP hD hS => ?_)
    refine lv_if_eq (tgt := 23) hx hb dX12_ordered_11 (by decide) (fun hcd => ?_) (fun hcd => ?_)
    · have h := cdP hcd h
      refine lv_iconst (v := (-1)) hx hb dX12_ordered_23 (by decide) ?_
      exact ux_iretP hx hb hr h hP hD hS hlocks dX12_ordered_24
    · have h := cdN hcd h
      refine lv_aload_n hx hb dX12_ordered_14 rfl (lv_at hl 0 rfl) ?_
      refine ux_get (D := (dC, dI)) (ci := 12) (v := .ref (ad 27)) (C := RX12) (T := TX12) (M := 59) (fs := (oM ad (σ.1 0))) hx hb hts (fun _ h9 => List.mem_cons_of_mem _ (List.mem_append_right _ h9)) hown hK hP 0 (Nat.le_of_ble_eq_true rfl) rfl rfl 33 (by decide) (hts (.fieldLink RX12 89 "SeatsRoundModel" "orderTold" "[I") (List.mem_of_getElem? (i := 2) rfl)) (fun _ h9 => h9) rfl dX12_ordered_15 ?_
      refine lv_iload_n hx hb dX12_ordered_18 rfl (lv_at hl 1 rfl) ?_
      refine ux_iald hx hb hK hP 27 0 (Nat.le_of_ble_eq_true rfl) (cM_27 _ _ _ _) rfl h dX12_ordered_19 (fun v3 h => ?_)
      refine lv_goto (tgt := 24) hx hb dX12_ordered_20 (by decide) ?_
      exact ux_iretP hx hb hr h hP hD hS hlocks dX12_ordered_24
  intro H locs ls h hP hD hS hl
  exact w0 σ a1 H locs ls h hP hD hS (lv_sub hl [0, 1] rfl)

set_option maxHeartbeats 4000000 in
set_option maxRecDepth 100000 in
theorem tX12_turning (l : Launch) (dC : Nat → ClassId) (dI : Nat → Nat → Nat) (cy : Nat → ClassId) (ad : Nat → Nat) (σ : S2) (a1 : Int32) (sz : Nat) (r0 : Int32) (σ9 : S2) (h : fX12_turning σ a1 = some (r0, σ9)) : Met l yX12_turning wsX12_turning ({ frames := 1, cells := 0, slots := 0, locals := 23 }) (va_Pc [.ref (ad 0), .int a1] (wPre (dC, dI) cy (wG (cM cy ad) ad 40 σ) sz)) (va_Qi (fun (r : Int32) (_ : Unit) => r = r0) (fun (_ : Unit) t => wAt (dC, dI) (va_A (wG (cM cy ad) ad 40 σ) sz) (wG (cM cy ad) ad 40 σ9) t) (va_A (wG (cM cy ad) ad 40 σ) sz)) 0 0 (va_A (wG (cM cy ad) ad 40 σ) sz) := by
  refine Met.ofW (cc := cX12_turning) (maxL := 2) (ret := (some .int)) (by decide) rfl ?_
  intro p e s m args below meth c s₁ B hml hv
  obtain ⟨rfl, hsz, hP, hK, hD0, hN⟩ := hv
  have hx := B.exec
  have hb := B.bytes
  have hr := B.returns
  have hts := atoms_spec (ws := wsX12_turning) B.pre
  have hown : s.vm.findClass RX12 = some m.cls := findClass_of_methodNamed B.named
  have hlocks := B.notSynchronized
  subst hsz
  have hD := hD0.self (sz := s.heap.size)
  generalize hAe : va_A (wG (cM cy ad) ad 40 σ) s.heap.size = A at hD ⊢
  have hA : ∀ q : Nat, s.heap.size ≤ q → A q := fun q h => by rw [← hAe]; exact Or.inr h
  have hS : va_S A s.heap s.heap [] := va_S.rf
  have hl := lv_entry ([.ref (ad 0), .int a1]) (n := 2) (Nat.le_of_ble_eq_true rfl)
  rw [lg_entry_eq]
  generalize (lg_sl ([.ref (ad 0), .int a1]) ++ List.replicate (2 - (lg_sl ([.ref (ad 0), .int a1])).length) Slot.unset).toArray = ls at hl ⊢
  have hl : lv_has ls 2 [(0, .ref (ad 0)), (1, .int a1)] := hl
  unfold fX12_turning at h
  clear hAe hD0
  suffices HH : ∀ (H : Heap) (locs : List Loc) (ls : Array Slot), fX12_turning_0 σ a1 = some (r0, σ9) → va_P (dC, dI) vwCl (wG (cM cy ad) ad 40 σ) H → va_D A (wG (cM cy ad) ad 40 σ) → va_S A s.heap H locs → lv_has ls 2 [(0, .ref (ad 0)), (1, .int a1)] → W p l e (headSpec wsX12_turning ({ frames := 1, cells := 0, slots := 0, locals := 23 })).room s m (#[.ref (ad 0), .int a1]) below meth c H locs 0 0 (MQ below (va_Qi (fun (r : Int32) (_ : Unit) => r = r0) (fun (_ : Unit) t => wAt (dC, dI) A (wG (cM cy ad) ad 40 σ9) t) A) (#[.ref (ad 0), .int a1]) s 0 0 A) (F0 m 0 ls []) from HH s.heap [] ls h hP hD hS hl
  have w0 : ∀ (σ : S2) (x1 : Int32) (H : Heap) (locs : List Loc) (ls : Array Slot), fX12_turning_0 σ x1 = some (r0, σ9) → va_P (dC, dI) vwCl (wG (cM cy ad) ad 40 σ) H → va_D A (wG (cM cy ad) ad 40 σ) → va_S A s.heap H locs → lv_has ls 2 [(0, .ref (ad 0)), (1, .int x1)] → W p l e (headSpec wsX12_turning ({ frames := 1, cells := 0, slots := 0, locals := 23 })).room s m (#[.ref (ad 0), .int a1]) below meth c H locs 0 0 (MQ below (va_Qi (fun (r : Int32) (_ : Unit) => r = r0) (fun (_ : Unit) t => wAt (dC, dI) A (wG (cM cy ad) ad 40 σ9) t) A) (#[.ref (ad 0), .int a1]) s 0 0 A) (F0 m 0 ls []) := by
    intro σ x1 H locs ls h hP hD hS hl
    unfold fX12_turning_0 at h
    refine lv_aload_n hx hb dX12_turning_0 rfl (lv_at hl 0 rfl) ?_
    refine ux_get (D := (dC, dI)) (ci := 12) (v := .int (σ.1 0 34)) (C := RX12) (T := TX12) (M := 59) (fs := (oM ad (σ.1 0))) hx hb hts (fun _ h9 => List.mem_cons_of_mem _ (List.mem_append_right _ h9)) hown hK hP 0 (Nat.le_of_ble_eq_true rfl) rfl rfl 34 (by decide) (hts (.fieldLink RX12 331 "SeatsRoundModel" "turnings" "I") (List.mem_of_getElem? (i := 1) rfl)) (fun _ h9 => h9) rfl dX12_turning_1 ?_
    refine lv_bipush (v := 6) hx hb dX12_turning_4 (by decide) ?_
    refine lv_icmp_ne (tgt := 12) hx hb dX12_turning_6 (by decide) (fun hcd => ?_) (fun hcd => ?_)
    · have h := cdN hcd h
      refine lv_aload_n hx hb dX12_turning_12 rfl (lv_at hl 0 rfl) ?_
      refine ux_get (D := (dC, dI)) (ci := 12) (v := .ref (ad 28)) (C := RX12) (T := TX12) (M := 59) (fs := (oM ad (σ.1 0))) hx hb hts (fun _ h9 => List.mem_cons_of_mem _ (List.mem_append_right _ h9)) hown hK hP 0 (Nat.le_of_ble_eq_true rfl) rfl rfl 35 (by decide) (hts (.fieldLink RX12 92 "SeatsRoundModel" "turning" "[I") (List.mem_of_getElem? (i := 2) rfl)) (fun _ h9 => h9) rfl dX12_turning_13 ?_
      refine lv_aload_n hx hb dX12_turning_16 rfl (lv_at hl 0 rfl) ?_
      refine ux_get (D := (dC, dI)) (ci := 12) (v := .int (σ.1 0 34)) (C := RX12) (T := TX12) (M := 59) (fs := (oM ad (σ.1 0))) hx hb hts (fun _ h9 => List.mem_cons_of_mem _ (List.mem_append_right _ h9)) hown hK hP 0 (Nat.le_of_ble_eq_true rfl) rfl rfl 34 (by decide) (hts (.fieldLink RX12 331 "SeatsRoundModel" "turnings" "I") (List.mem_of_getElem? (i := 1) rfl)) (fun _ h9 => h9) rfl dX12_turning_17 ?_
      refine lv_iload_n hx hb dX12_turning_20 rfl (lv_at hl 1 rfl) ?_
      refine ux_iast hx hb hK hP hD hS 28 0 (Nat.le_of_ble_eq_true rfl) (fun _ => (cM_28 _ _ _ _)) rfl h dX12_turning_21 (fun σ1 H locs h hP hD hS => ?_)
      refine lv_aload_n hx hb dX12_turning_22 rfl (lv_at hl 0 rfl) ?_
      refine lv_dup hx hb dX12_turning_23 rfl ?_
      refine ux_get (D := (dC, dI)) (ci := 12) (v := .int (σ1.1 0 34)) (C := RX12) (T := TX12) (M := 59) (fs := (oM ad (σ1.1 0))) hx hb hts (fun _ h9 => List.mem_cons_of_mem _ (List.mem_append_right _ h9)) hown hK hP 0 (Nat.le_of_ble_eq_true rfl) rfl rfl 34 (by decide) (hts (.fieldLink RX12 331 "SeatsRoundModel" "turnings" "I") (List.mem_of_getElem? (i := 1) rfl)) (fun _ h9 => h9) rfl dX12_turning_24 ?_
      refine lv_iconst (v := 1) hx hb dX12_turning_27 (by decide) ?_
      refine lv_iadd hx hb dX12_turning_28 ?_
      refine ux_put (D := (dC, dI)) (ci := 12) (C := RX12) (T := TX12) (M := 59) (fs := (oM ad (σ1.1 0))) hx hb hts (fun _ h9 => List.mem_cons_of_mem _ (List.mem_append_right _ h9)) tyX12 tyX12_ok nmX12 hown hK hP hD hS 0 (Nat.le_of_ble_eq_true rfl) rfl rfl 34 (by decide) (hts (.fieldLink RX12 331 "SeatsRoundModel" "turnings" "I") (List.mem_of_getElem? (i := 1) rfl)) (fun _ h9 => h9) rfl (tyX12_ok 34 (by decide)) rfl rfl (Nat.le_of_ble_eq_true rfl) (oM_set_34 _ _ _ _ _) h dX12_turning_29 (fun σ2 H locs h hP hD hS => ?_)
      refine lv_aload_n hx hb dX12_turning_32 rfl (lv_at hl 0 rfl) ?_
      refine ux_get (D := (dC, dI)) (ci := 12) (v := .int (σ2.1 0 34)) (C := RX12) (T := TX12) (M := 59) (fs := (oM ad (σ2.1 0))) hx hb hts (fun _ h9 => List.mem_cons_of_mem _ (List.mem_append_right _ h9)) hown hK hP 0 (Nat.le_of_ble_eq_true rfl) rfl rfl 34 (by decide) (hts (.fieldLink RX12 331 "SeatsRoundModel" "turnings" "I") (List.mem_of_getElem? (i := 1) rfl)) (fun _ h9 => h9) rfl dX12_turning_33 ?_
      exact ux_iret hx hb hr h hP hD hS hlocks dX12_turning_36
    · have h := cdP hcd h
      refine lv_bipush (v := (-3)) hx hb dX12_turning_9 (by decide) ?_
      exact ux_iret hx hb hr h hP hD hS hlocks dX12_turning_11
  intro H locs ls h hP hD hS hl
  exact w0 σ a1 H locs ls h hP hD hS (lv_sub hl [0, 1] rfl)

