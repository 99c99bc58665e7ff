set_option maxHeartbeats 4000000 in
set_option maxRecDepth 100000 in
theorem tX12_sits (l : Launch) (dC : Nat → ClassId) (dI : Nat → Nat → Nat) (cy : Nat → ClassId) (ad : Nat → Nat) (σ : S2) (a1 : Int32) (sz : Nat) (r0 : Unit) (σ9 : S2) (h : fX12_sits σ a1 = some (r0, σ9)) : Met l yX12_sits wsX12_sits ({ frames := 2, cells := 0, slots := 0, locals := 45 }) (va_Pc [.ref (ad 0), .int a1] (wPre (dC, dI) cy (wG (cM cy ad) ad 40 σ) sz)) (va_Qv (fun (_ : Unit) => True) (fun (_ : Unit) t => wAt (dC, dI) (va_A (wG (cM cy ad) ad 40 σ) sz) (wG (cM cy ad) ad 40 σ9) t) (va_A (wG (cM cy ad) ad 40 σ) sz)) 0 0 (va_A (wG (cM cy ad) ad 40 σ) sz) := by
  refine Met.ofW (cc := cX12_sits) (maxL := 6) (ret := none) (by decide) rfl ?_
  intro p e s m args below meth c s₁ B hml hv
  obtain ⟨rfl, hsz, hP, hK, hD0, hN⟩ := hv
  have hx := B.exec
  have hb := B.bytes
  have hr := B.returns
  have hts := atoms_spec (ws := wsX12_sits) B.pre
  have hown : s.vm.findClass RX12 = some m.cls := findClass_of_methodNamed B.named
  have hlocks := B.notSynchronized
  subst hsz
  have hD := hD0.self (sz := s.heap.size)
  generalize hAe : va_A (wG (cM cy ad) ad 40 σ) s.heap.size = A at hD ⊢
  have hA : ∀ q : Nat, s.heap.size ≤ q → A q := fun q h => by rw [← hAe]; exact Or.inr h
  have hS : va_S A s.heap s.heap [] := va_S.rf
  have hl := lv_entry ([.ref (ad 0), .int a1]) (n := 6) (Nat.le_of_ble_eq_true rfl)
  rw [lg_entry_eq]
  generalize (lg_sl ([.ref (ad 0), .int a1]) ++ List.replicate (6 - (lg_sl ([.ref (ad 0), .int a1])).length) Slot.unset).toArray = ls at hl ⊢
  have hl : lv_has ls 6 [(0, .ref (ad 0)), (1, .int a1)] := hl
  unfold fX12_sits at h
  clear hAe hD0
  suffices HH : ∀ (H : Heap) (locs : List Loc) (ls : Array Slot), fX12_sits_0 σ a1 = some (r0, σ9) → va_P (dC, dI) vwCl (wG (cM cy ad) ad 40 σ) H → va_D A (wG (cM cy ad) ad 40 σ) → va_S A s.heap H locs → lv_has ls 6 [(0, .ref (ad 0)), (1, .int a1)] → W p l e (headSpec wsX12_sits ({ frames := 2, cells := 0, slots := 0, locals := 45 })).room s m (#[.ref (ad 0), .int a1]) below meth c H locs 0 0 (MQ below (va_Qv (fun (_ : Unit) => True) (fun (_ : Unit) t => wAt (dC, dI) A (wG (cM cy ad) ad 40 σ9) t) A) (#[.ref (ad 0), .int a1]) s 0 0 A) (F0 m 0 ls []) from HH s.heap [] ls h hP hD hS hl
  have w95 : ∀ (k75 : S2 → Int32 → Int32 → Int32 → Int32 → Option (Unit × S2)) (hk75 : ∀ (σ : S2) (x1 : Int32) (x2 : Int32) (x3 : Int32) (x4 : Int32) (H : Heap) (locs : List Loc) (ls : Array Slot), k75 σ x1 x2 x3 x4 = some (r0, σ9) → va_P (dC, dI) vwCl (wG (cM cy ad) ad 40 σ) H → va_D A (wG (cM cy ad) ad 40 σ) → va_S A s.heap H locs → lv_has ls 6 [(0, .ref (ad 0)), (1, .int x1), (2, .int x2), (3, .int x3), (4, .int x4)] → W p l e (headSpec wsX12_sits ({ frames := 2, cells := 0, slots := 0, locals := 45 })).room s m (#[.ref (ad 0), .int a1]) below meth c H locs 0 0 (MQ below (va_Qv (fun (_ : Unit) => True) (fun (_ : Unit) t => wAt (dC, dI) A (wG (cM cy ad) ad 40 σ9) t) A) (#[.ref (ad 0), .int a1]) s 0 0 A) (F0 m 75 ls [])) (n : Nat), ∀ (σ : S2) (x1 : Int32) (x2 : Int32) (x3 : Int32) (x4 : Int32) (x5 : Int32) (H : Heap) (locs : List Loc) (ls : Array Slot), fX12_sits_95 k75 n σ x1 x2 x3 x4 x5 = some (r0, σ9) → va_P (dC, dI) vwCl (wG (cM cy ad) ad 40 σ) H → va_D A (wG (cM cy ad) ad 40 σ) → va_S A s.heap H locs → lv_has ls 6 [(0, .ref (ad 0)), (1, .int x1), (2, .int x2), (3, .int x3), (4, .int x4), (5, .int x5)] → W p l e (headSpec wsX12_sits ({ frames := 2, cells := 0, slots := 0, locals := 45 })).room s m (#[.ref (ad 0), .int a1]) below meth c H locs 0 0 (MQ below (va_Qv (fun (_ : Unit) => True) (fun (_ : Unit) t => wAt (dC, dI) A (wG (cM cy ad) ad 40 σ9) t) A) (#[.ref (ad 0), .int a1]) s 0 0 A) (F0 m 95 ls []) := by
    intro k75 hk75 n
    induction n with
    | zero => intro σ x1 x2 x3 x4 x5 H locs ls h; cases h
    | succ n ih =>
    intro σ x1 x2 x3 x4 x5 H locs ls h hP hD hS hl
    unfold fX12_sits_95 at h
    refine lv_aload_n hx hb dX12_sits_95 rfl (lv_at hl 0 rfl) ?_
    refine ux_get (D := (dC, dI)) (ci := 12) (v := .ref (ad 18)) (C := RX12) (T := TX12) (M := 59) (fs := (oM ad (σ.1 0))) hx hb hts (fun _ h9 => List.mem_cons_of_mem _ (List.mem_append_right _ h9)) hown hK hP 0 (Nat.le_of_ble_eq_true rfl) rfl rfl 20 (by decide) (hts (.fieldLink RX12 62 "SeatsRoundModel" "seats" "[I") (List.mem_of_getElem? (i := 1) rfl)) (fun _ h9 => h9) rfl dX12_sits_96 ?_
    refine lv_sipush (v := 1000) hx hb dX12_sits_99 (by decide) ?_
    refine lv_iload_n hx hb dX12_sits_102 rfl (lv_at hl 1 rfl) ?_
    refine lv_imul hx hb dX12_sits_103 ?_
    refine lv_iload hx hb dX12_sits_104 (lv_at hl 5 rfl) ?_
    refine lv_iadd hx hb dX12_sits_106 ?_
    refine ux_iald hx hb hK hP 18 0 (Nat.le_of_ble_eq_true rfl) (cM_18 _ _ _ _) rfl h dX12_sits_107 (fun v1 h => ?_)
    change W _ _ _ _ _ _ _ _ _ _ _ _ _ _ _ (F0 m 108 ls [.int v1])
    refine lv_iconst (v := (-1)) hx hb dX12_sits_108 (by decide) ?_
    refine lv_icmp_eq (tgt := 125) hx hb dX12_sits_109 (by decide) (fun hcd => ?_) (fun hcd => ?_)
    · have h := cdP hcd h
      refine lv_aload_n hx hb dX12_sits_125 rfl (lv_at hl 0 rfl) ?_
      refine ux_get (D := (dC, dI)) (ci := 12) (v := .ref (ad 18)) (C := RX12) (T := TX12) (M := 59) (fs := (oM ad (σ.1 0))) hx hb hts (fun _ h9 => List.mem_cons_of_mem _ (List.mem_append_right _ h9)) hown hK hP 0 (Nat.le_of_ble_eq_true rfl) rfl rfl 20 (by decide) (hts (.fieldLink RX12 62 "SeatsRoundModel" "seats" "[I") (List.mem_of_getElem? (i := 1) rfl)) (fun _ h9 => h9) rfl dX12_sits_126 ?_
      refine lv_sipush (v := 1000) hx hb dX12_sits_129 (by decide) ?_
      refine lv_iload_n hx hb dX12_sits_132 rfl (lv_at hl 1 rfl) ?_
      refine lv_imul hx hb dX12_sits_133 ?_
      refine lv_iload hx hb dX12_sits_134 (lv_at hl 5 rfl) ?_
      refine lv_iadd hx hb dX12_sits_136 ?_
      refine lv_iload_n hx hb dX12_sits_137 rfl (lv_at hl 2 rfl) ?_
      change W _ _ _ _ _ _ _ _ _ _ _ _ _ _ _ (F0 m 138 ls [.int x2, .int ((1000 * x1) + x5), .ref (ad 18)])
      refine ux_iast hx hb hK hP hD hS 18 0 (Nat.le_of_ble_eq_true rfl) (fun _ => (cM_18 _ _ _ _)) rfl h dX12_sits_138 (fun σ2 H locs h hP hD hS => ?_)
      refine lv_aload_n hx hb dX12_sits_139 rfl (lv_at hl 0 rfl) ?_
      refine ux_get (D := (dC, dI)) (ci := 12) (v := .ref (ad 17)) (C := RX12) (T := TX12) (M := 59) (fs := (oM ad (σ2.1 0))) hx hb hts (fun _ h9 => List.mem_cons_of_mem _ (List.mem_append_right _ h9)) hown hK hP 0 (Nat.le_of_ble_eq_true rfl) rfl rfl 19 (by decide) (hts (.fieldLink RX12 59 "SeatsRoundModel" "seatMany" "[I") (List.mem_of_getElem? (i := 2) rfl)) (fun _ h9 => h9) rfl dX12_sits_140 ?_
      refine lv_iload_n hx hb dX12_sits_143 rfl (lv_at hl 1 rfl) ?_
      refine lv_dup2_11 hx hb dX12_sits_144 rfl rfl ?_
      refine ux_iald hx hb hK hP 17 0 (Nat.le_of_ble_eq_true rfl) (cM_17 _ _ _ _) rfl h dX12_sits_145 (fun v3 h => ?_)
      refine lv_iconst (v := 1) hx hb dX12_sits_146 (by decide) ?_
      refine lv_iadd hx hb dX12_sits_147 ?_
      refine ux_iast hx hb hK hP hD hS 17 0 (Nat.le_of_ble_eq_true rfl) (fun _ => (cM_17 _ _ _ _)) rfl h dX12_sits_148 (fun σ4 H locs h hP hD hS => ?_)
      obtain ⟨v5, ev5⟩ : ∃ y : Int32, y = x4 + 1 := ⟨_, rfl⟩
      have h := nmS h ev5
      refine lv_iinc (v := v5) (lv' := [(4, .int v5), (0, .ref (ad 0)), (1, .int x1), (2, .int x2), (3, .int x3), (5, .int x5)]) hx hb dX12_sits_149 hl (k := 4) rfl (by rw [ev5]; rfl) (by decide) rfl (fun ls hl => ?_)
      have hl := lv_sub hl [1, 2, 3, 4, 0, 5] (l' := [(0, .ref (ad 0)), (1, .int x1), (2, .int x2), (3, .int x3), (4, .int v5), (5, .int x5)]) rfl
      refine lv_goto (tgt := 75) hx hb dX12_sits_152 (by decide) ?_
      exact hk75 σ4 x1 x2 x3 v5 H locs ls h hP hD hS (lv_sub hl [0, 1, 2, 3, 4] rfl)
    · have h := cdN hcd h
      refine lv_iload hx hb dX12_sits_112 (lv_at hl 5 rfl) ?_
      refine lv_iconst (v := 1) hx hb dX12_sits_114 (by decide) ?_
      refine lv_iadd hx hb dX12_sits_115 ?_
      refine lv_sipush (v := 1000) hx hb dX12_sits_116 (by decide) ?_
      obtain ⟨hz6, h⟩ := dzS h
      refine lv_irem hx hb dX12_sits_119 hz6 ?_
      refine lv_topi (fun v7 ev7 => ?_)
      have h := nmS h ev7
      refine lv_istore (lv' := [(5, .int v7), (0, .ref (ad 0)), (1, .int x1), (2, .int x2), (3, .int x3), (4, .int x4)]) hx hb dX12_sits_120 hl (by decide) rfl (fun ls hl => ?_)
      have hl := lv_sub hl [1, 2, 3, 4, 5, 0] (l' := [(0, .ref (ad 0)), (1, .int x1), (2, .int x2), (3, .int x3), (4, .int x4), (5, .int v7)]) rfl
      refine lv_goto (tgt := 95) hx hb dX12_sits_122 (by decide) ?_
      exact ih σ x1 x2 x3 x4 v7 H locs ls h hP hD hS hl
  have w75 : ∀ (k37 : S2 → Int32 → Int32 → Option (Unit × S2)) (hk37 : ∀ (σ : S2) (x1 : Int32) (x2 : Int32) (H : Heap) (locs : List Loc) (ls : Array Slot), k37 σ x1 x2 = some (r0, σ9) → va_P (dC, dI) vwCl (wG (cM cy ad) ad 40 σ) H → va_D A (wG (cM cy ad) ad 40 σ) → va_S A s.heap H locs → lv_has ls 6 [(0, .ref (ad 0)), (1, .int x1), (2, .int x2)] → W p l e (headSpec wsX12_sits ({ frames := 2, cells := 0, slots := 0, locals := 45 })).room s m (#[.ref (ad 0), .int a1]) below meth c H locs 0 0 (MQ below (va_Qv (fun (_ : Unit) => True) (fun (_ : Unit) t => wAt (dC, dI) A (wG (cM cy ad) ad 40 σ9) t) A) (#[.ref (ad 0), .int a1]) s 0 0 A) (F0 m 37 ls [])) (n : Nat), ∀ (σ : S2) (x1 : Int32) (x2 : Int32) (x3 : Int32) (x4 : Int32) (H : Heap) (locs : List Loc) (ls : Array Slot), fX12_sits_75 k37 n σ x1 x2 x3 x4 = some (r0, σ9) → va_P (dC, dI) vwCl (wG (cM cy ad) ad 40 σ) H → va_D A (wG (cM cy ad) ad 40 σ) → va_S A s.heap H locs → lv_has ls 6 [(0, .ref (ad 0)), (1, .int x1), (2, .int x2), (3, .int x3), (4, .int x4)] → W p l e (headSpec wsX12_sits ({ frames := 2, cells := 0, slots := 0, locals := 45 })).room s m (#[.ref (ad 0), .int a1]) below meth c H locs 0 0 (MQ below (va_Qv (fun (_ : Unit) => True) (fun (_ : Unit) t => wAt (dC, dI) A (wG (cM cy ad) ad 40 σ9) t) A) (#[.ref (ad 0), .int a1]) s 0 0 A) (F0 m 75 ls []) := by
    intro k37 hk37 n
    induction n with
    | zero => intro σ x1 x2 x3 x4 H locs ls h; cases h
    | succ n ih =>
    intro σ x1 x2 x3 x4 H locs ls h hP hD hS hl
    unfold fX12_sits_75 at h
    refine lv_iload hx hb dX12_sits_75 (lv_at hl 4 rfl) ?_
    refine lv_iload_n hx hb dX12_sits_77 rfl (lv_at hl 3 rfl) ?_
    refine lv_icmp_ge (tgt := 155) hx hb dX12_sits_78 (by decide) (fun hcd => ?_) (fun hcd => ?_)
    · have h := cdP hcd h
      obtain ⟨v8, ev8⟩ : ∃ y : Int32, y = x2 + 1 := ⟨_, rfl⟩
      have h := nmS h ev8
      refine lv_iinc (v := v8) (lv' := [(2, .int v8), (0, .ref (ad 0)), (1, .int x1), (3, .int x3), (4, .int x4)]) hx hb dX12_sits_155 hl (k := 2) rfl (by rw [ev8]; rfl) (by decide) rfl (fun ls hl => ?_)
      have hl := lv_sub hl [1, 2, 0, 3, 4] (l' := [(0, .ref (ad 0)), (1, .int x1), (2, .int v8), (3, .int x3), (4, .int x4)]) rfl
      refine lv_goto (tgt := 37) hx hb dX12_sits_158 (by decide) ?_
      exact hk37 σ x1 v8 H locs ls h hP hD hS (lv_sub hl [0, 1, 2] rfl)
    · have h := cdN hcd h
      refine lv_iload_n hx hb dX12_sits_81 rfl (lv_at hl 2 rfl) ?_
      refine lv_iload hx hb dX12_sits_82 (lv_at hl 4 rfl) ?_
      refine lv_aload_n hx hb dX12_sits_84 rfl (lv_at hl 0 rfl) ?_
      refine ux_get (D := (dC, dI)) (ci := 12) (v := .ref (ad 9)) (C := RX12) (T := TX12) (M := 59) (fs := (oM ad (σ.1 0))) hx hb hts (fun _ h9 => List.mem_cons_of_mem _ (List.mem_append_right _ h9)) hown hK hP 0 (Nat.le_of_ble_eq_true rfl) rfl rfl 11 (by decide) (hts (.fieldLink RX12 35 "SeatsRoundModel" "tableZ" "[I") (List.mem_of_getElem? (i := 5) rfl)) (fun _ h9 => h9) rfl dX12_sits_85 ?_
      refine lv_iload_n hx hb dX12_sits_88 rfl (lv_at hl 1 rfl) ?_
      refine ux_iald hx hb hK hP 9 0 (Nat.le_of_ble_eq_true rfl) (cM_9 _ _ _ _) rfl h dX12_sits_89 (fun v9 h => ?_)
      obtain ⟨r10, hf11, h⟩ := biS h
      refine ux_calli (va_runS (As := [.int x2, .int x4, .int v9]) (rest := []) ⟨hx, hb, hml, hown, hts⟩ (tX12_mixed l dC dI cy ad σ x2 x4 v9 H.size r10 hf11) (va_cwS 3 hts gX12_sits_X12_mixed rfl rfl rfl (by decide +kernel) ⟨Nat.le_of_ble_eq_true rfl, Nat.le_of_ble_eq_true rfl⟩) (wp_S hK hN hP hD) rfl rfl hl.1 rfl (lv_room (Nat.le_of_ble_eq_true rfl)) dX12_sits_90 ⟨Nat.le_of_ble_eq_true rfl, Nat.le_of_ble_eq_true rfl⟩) hD hS hA (fun H locs hP hD hS => ?_)
      refine lv_istore (lv' := [(5, .int r10), (0, .ref (ad 0)), (1, .int x1), (2, .int x2), (3, .int x3), (4, .int x4)]) hx hb dX12_sits_93 hl (by decide) rfl (fun ls hl => ?_)
      have hl := lv_sub hl [1, 2, 3, 4, 5, 0] (l' := [(0, .ref (ad 0)), (1, .int x1), (2, .int x2), (3, .int x3), (4, .int x4), (5, .int r10)]) rfl
      exact w95 _ ih FU σ x1 x2 x3 x4 r10 H locs ls h hP hD hS hl
  have w71 : ∀ (k37 : S2 → Int32 → Int32 → Option (Unit × S2)) (hk37 : ∀ (σ : S2) (x1 : Int32) (x2 : Int32) (H : Heap) (locs : List Loc) (ls : Array Slot), k37 σ x1 x2 = some (r0, σ9) → va_P (dC, dI) vwCl (wG (cM cy ad) ad 40 σ) H → va_D A (wG (cM cy ad) ad 40 σ) → va_S A s.heap H locs → lv_has ls 6 [(0, .ref (ad 0)), (1, .int x1), (2, .int x2)] → W p l e (headSpec wsX12_sits ({ frames := 2, cells := 0, slots := 0, locals := 45 })).room s m (#[.ref (ad 0), .int a1]) below meth c H locs 0 0 (MQ below (va_Qv (fun (_ : Unit) => True) (fun (_ : Unit) t => wAt (dC, dI) A (wG (cM cy ad) ad 40 σ9) t) A) (#[.ref (ad 0), .int a1]) s 0 0 A) (F0 m 37 ls [])) , ∀ (σ : S2) (x1 : Int32) (x2 : Int32) (s0 : Int32) (H : Heap) (locs : List Loc) (ls : Array Slot), fX12_sits_71 k37 σ x1 x2 s0 = some (r0, σ9) → va_P (dC, dI) vwCl (wG (cM cy ad) ad 40 σ) H → va_D A (wG (cM cy ad) ad 40 σ) → va_S A s.heap H locs → lv_has ls 6 [(0, .ref (ad 0)), (1, .int x1), (2, .int x2)] → W p l e (headSpec wsX12_sits ({ frames := 2, cells := 0, slots := 0, locals := 45 })).room s m (#[.ref (ad 0), .int a1]) below meth c H locs 0 0 (MQ below (va_Qv (fun (_ : Unit) => True) (fun (_ : Unit) t => wAt (dC, dI) A (wG (cM cy ad) ad 40 σ9) t) A) (#[.ref (ad 0), .int a1]) s 0 0 A) (F0 m 71 ls [.int s0]) := by
    intro k37 hk37 σ x1 x2 s0 H locs ls h hP hD hS hl
    unfold fX12_sits_71 at h
    refine lv_istore_n (lv' := [(3, .int s0), (0, .ref (ad 0)), (1, .int x1), (2, .int x2)]) hx hb dX12_sits_71 rfl hl (by decide) rfl (fun ls hl => ?_)
    have hl := lv_sub hl [1, 2, 3, 0] (l' := [(0, .ref (ad 0)), (1, .int x1), (2, .int x2), (3, .int s0)]) rfl
    refine lv_iconst (v := 0) hx hb dX12_sits_72 (by decide) ?_
    refine lv_istore (lv' := [(4, .int 0), (0, .ref (ad 0)), (1, .int x1), (2, .int x2), (3, .int s0)]) hx hb dX12_sits_73 hl (by decide) rfl (fun ls hl => ?_)
    have hl := lv_sub hl [1, 2, 3, 4, 0] (l' := [(0, .ref (ad 0)), (1, .int x1), (2, .int x2), (3, .int s0), (4, .int 0)]) rfl
    exact w75 _ hk37 FU σ x1 x2 s0 0 H locs ls h hP hD hS hl
  have w37 : ∀ (n : Nat), ∀ (σ : S2) (x1 : Int32) (x2 : Int32) (H : Heap) (locs : List Loc) (ls : Array Slot), fX12_sits_37 n σ x1 x2 = some (r0, σ9) → va_P (dC, dI) vwCl (wG (cM cy ad) ad 40 σ) H → va_D A (wG (cM cy ad) ad 40 σ) → va_S A s.heap H locs → lv_has ls 6 [(0, .ref (ad 0)), (1, .int x1), (2, .int x2)] → W p l e (headSpec wsX12_sits ({ frames := 2, cells := 0, slots := 0, locals := 45 })).room s m (#[.ref (ad 0), .int a1]) below meth c H locs 0 0 (MQ below (va_Qv (fun (_ : Unit) => True) (fun (_ : Unit) t => wAt (dC, dI) A (wG (cM cy ad) ad 40 σ9) t) A) (#[.ref (ad 0), .int a1]) s 0 0 A) (F0 m 37 ls []) := by
    intro n
    induction n with
    | zero => intro σ x1 x2 H locs ls h; cases h
    | succ n ih =>
    intro σ x1 x2 H locs ls h hP hD hS hl
    unfold fX12_sits_37 at h
    refine lv_iload_n hx hb dX12_sits_37 rfl (lv_at hl 2 rfl) ?_
    refine lv_aload_n hx hb dX12_sits_38 rfl (lv_at hl 0 rfl) ?_
    refine ux_get (D := (dC, dI)) (ci := 12) (v := .int (σ.1 0 3)) (C := RX12) (T := TX12) (M := 59) (fs := (oM ad (σ.1 0))) hx hb hts (fun _ h9 => List.mem_cons_of_mem _ (List.mem_append_right _ h9)) hown hK hP 0 (Nat.le_of_ble_eq_true rfl) rfl rfl 3 (by decide) (hts (.fieldLink RX12 140 "SeatsRoundModel" "keepers" "I") (List.mem_of_getElem? (i := 3) rfl)) (fun _ h9 => h9) rfl dX12_sits_39 ?_
    refine lv_icmp_ge (tgt := 161) hx hb dX12_sits_42 (by decide) (fun hcd => ?_) (fun hcd => ?_)
    · have h := cdP hcd h
      exact ux_vret hx hb hr h hP hD hS hlocks dX12_sits_161
    · have h := cdN hcd h
      refine lv_aload_n hx hb dX12_sits_45 rfl (lv_at hl 0 rfl) ?_
      refine lv_iload_n hx hb dX12_sits_46 rfl (lv_at hl 1 rfl) ?_
      refine lv_iload_n hx hb dX12_sits_47 rfl (lv_at hl 2 rfl) ?_
      obtain ⟨r12, hf13, h⟩ := biS h
      refine ux_calli (va_runV (As := [.int x1, .int x2]) (rest := []) ⟨hx, hb, hml, hown, hts⟩ (tX12_isIn l dC dI cy ad σ x1 x2 H.size r12 hf13) (cwV 2 hts gX12_sits_X12_isIn rfl rfl rfl (by decide +kernel) ⟨Nat.le_of_ble_eq_true rfl, Nat.le_of_ble_eq_true rfl⟩) (wp_V hK hN hP hD (va_recv hK hP (ci := 12) (q0 := 0) rfl (wG_of (Nat.le_of_ble_eq_true rfl) rfl))) rfl rfl hl.1 rfl (lv_room (Nat.le_of_ble_eq_true rfl)) dX12_sits_48 ⟨Nat.le_of_ble_eq_true rfl, Nat.le_of_ble_eq_true rfl⟩) hD hS hA (fun H locs hP hD hS => ?_)
      refine lv_if_eq (tgt := 70) hx hb dX12_sits_51 (by decide) (fun hcd => ?_) (fun hcd => ?_)
      · have h := cdP hcd h
        refine lv_iconst (v := 0) hx hb dX12_sits_70 (by decide) ?_
        exact w71 _ ih σ x1 x2 0 H locs ls h hP hD hS hl
      · have h := cdN hcd h
        refine lv_iconst (v := 4) hx hb dX12_sits_54 (by decide) ?_
        refine lv_aload_n hx hb dX12_sits_55 rfl (lv_at hl 0 rfl) ?_
        refine ux_get (D := (dC, dI)) (ci := 12) (v := .ref (ad 15)) (C := RX12) (T := TX12) (M := 59) (fs := (oM ad (σ.1 0))) hx hb hts (fun _ h9 => List.mem_cons_of_mem _ (List.mem_append_right _ h9)) hown hK hP 0 (Nat.le_of_ble_eq_true rfl) rfl rfl 17 (by decide) (hts (.fieldLink RX12 53 "SeatsRoundModel" "counts" "[I") (List.mem_of_getElem? (i := 4) rfl)) (fun _ h9 => h9) rfl dX12_sits_56 ?_
        refine lv_bipush (v := 12) hx hb dX12_sits_59 (by decide) ?_
        refine lv_iload_n hx hb dX12_sits_61 rfl (lv_at hl 1 rfl) ?_
        refine lv_imul hx hb dX12_sits_62 ?_
        refine lv_iload_n hx hb dX12_sits_63 rfl (lv_at hl 2 rfl) ?_
        refine lv_iadd hx hb dX12_sits_64 ?_
        change W _ _ _ _ _ _ _ _ _ _ _ _ _ _ _ (F0 m 65 ls [.int ((12 * x1) + x2), .ref (ad 15), .int 4])
        refine ux_iald hx hb hK hP 15 0 (Nat.le_of_ble_eq_true rfl) (cM_15 _ _ _ _) rfl h dX12_sits_65 (fun v14 h => ?_)
        refine lv_imul hx hb dX12_sits_66 ?_
        refine lv_goto (tgt := 71) hx hb dX12_sits_67 (by decide) ?_
        exact w71 _ ih σ x1 x2 (4 * v14) H locs ls h hP hD hS hl
  have w2 : ∀ (n : Nat), ∀ (σ : S2) (x1 : Int32) (x2 : Int32) (H : Heap) (locs : List Loc) (ls : Array Slot), fX12_sits_2 n σ x1 x2 = some (r0, σ9) → va_P (dC, dI) vwCl (wG (cM cy ad) ad 40 σ) H → va_D A (wG (cM cy ad) ad 40 σ) → va_S A s.heap H locs → lv_has ls 6 [(0, .ref (ad 0)), (1, .int x1), (2, .int x2)] → W p l e (headSpec wsX12_sits ({ frames := 2, cells := 0, slots := 0, locals := 45 })).room s m (#[.ref (ad 0), .int a1]) below meth c H locs 0 0 (MQ below (va_Qv (fun (_ : Unit) => True) (fun (_ : Unit) t => wAt (dC, dI) A (wG (cM cy ad) ad 40 σ9) t) A) (#[.ref (ad 0), .int a1]) s 0 0 A) (F0 m 2 ls []) := by
    intro n
    induction n with
    | zero => intro σ x1 x2 H locs ls h; cases h
    | succ n ih =>
    intro σ x1 x2 H locs ls h hP hD hS hl
    unfold fX12_sits_2 at h
    refine lv_iload_n hx hb dX12_sits_2 rfl (lv_at hl 2 rfl) ?_
    refine lv_sipush (v := 1000) hx hb dX12_sits_3 (by decide) ?_
    refine lv_icmp_ge (tgt := 28) hx hb dX12_sits_6 (by decide) (fun hcd => ?_) (fun hcd => ?_)
    · have h := cdP hcd h
      refine lv_aload_n hx hb dX12_sits_28 rfl (lv_at hl 0 rfl) ?_
      refine ux_get (D := (dC, dI)) (ci := 12) (v := .ref (ad 17)) (C := RX12) (T := TX12) (M := 59) (fs := (oM ad (σ.1 0))) hx hb hts (fun _ h9 => List.mem_cons_of_mem _ (List.mem_append_right _ h9)) hown hK hP 0 (Nat.le_of_ble_eq_true rfl) rfl rfl 19 (by decide) (hts (.fieldLink RX12 59 "SeatsRoundModel" "seatMany" "[I") (List.mem_of_getElem? (i := 2) rfl)) (fun _ h9 => h9) rfl dX12_sits_29 ?_
      refine lv_iload_n hx hb dX12_sits_32 rfl (lv_at hl 1 rfl) ?_
      refine lv_iconst (v := 0) hx hb dX12_sits_33 (by decide) ?_
      refine ux_iast hx hb hK hP hD hS 17 0 (Nat.le_of_ble_eq_true rfl) (fun _ => (cM_17 _ _ _ _)) rfl h dX12_sits_34 (fun σ15 H locs h hP hD hS => ?_)
      refine lv_iconst (v := 0) hx hb dX12_sits_35 (by decide) ?_
      refine lv_istore_n (lv' := [(2, .int 0), (0, .ref (ad 0)), (1, .int x1)]) hx hb dX12_sits_36 rfl hl (by decide) rfl (fun ls hl => ?_)
      have hl := lv_sub hl [1, 2, 0] (l' := [(0, .ref (ad 0)), (1, .int x1), (2, .int 0)]) rfl
      exact w37 FU σ15 x1 0 H locs ls h hP hD hS hl
    · have h := cdN hcd h
      refine lv_aload_n hx hb dX12_sits_9 rfl (lv_at hl 0 rfl) ?_
      refine ux_get (D := (dC, dI)) (ci := 12) (v := .ref (ad 18)) (C := RX12) (T := TX12) (M := 59) (fs := (oM ad (σ.1 0))) hx hb hts (fun _ h9 => List.mem_cons_of_mem _ (List.mem_append_right _ h9)) hown hK hP 0 (Nat.le_of_ble_eq_true rfl) rfl rfl 20 (by decide) (hts (.fieldLink RX12 62 "SeatsRoundModel" "seats" "[I") (List.mem_of_getElem? (i := 1) rfl)) (fun _ h9 => h9) rfl dX12_sits_10 ?_
      refine lv_sipush (v := 1000) hx hb dX12_sits_13 (by decide) ?_
      refine lv_iload_n hx hb dX12_sits_16 rfl (lv_at hl 1 rfl) ?_
      refine lv_imul hx hb dX12_sits_17 ?_
      refine lv_iload_n hx hb dX12_sits_18 rfl (lv_at hl 2 rfl) ?_
      refine lv_iadd hx hb dX12_sits_19 ?_
      refine lv_iconst (v := (-1)) hx hb dX12_sits_20 (by decide) ?_
      change W _ _ _ _ _ _ _ _ _ _ _ _ _ _ _ (F0 m 21 ls [.int (-1), .int ((1000 * x1) + x2), .ref (ad 18)])
      refine ux_iast hx hb hK hP hD hS 18 0 (Nat.le_of_ble_eq_true rfl) (fun _ => (cM_18 _ _ _ _)) rfl h dX12_sits_21 (fun σ16 H locs h hP hD hS => ?_)
      obtain ⟨v17, ev17⟩ : ∃ y : Int32, y = x2 + 1 := ⟨_, rfl⟩
      have h := nmS h ev17
      refine lv_iinc (v := v17) (lv' := [(2, .int v17), (0, .ref (ad 0)), (1, .int x1)]) hx hb dX12_sits_22 hl (k := 2) rfl (by rw [ev17]; rfl) (by decide) rfl (fun ls hl => ?_)
      have hl := lv_sub hl [1, 2, 0] (l' := [(0, .ref (ad 0)), (1, .int x1), (2, .int v17)]) rfl
      refine lv_goto (tgt := 2) hx hb dX12_sits_25 (by decide) ?_
      exact ih σ16 x1 v17 H locs ls h hP hD hS hl
  have w0 : ∀ (σ : S2) (x1 : Int32) (H : Heap) (locs : List Loc) (ls : Array Slot), fX12_sits_0 σ x1 = some (r0, σ9) → va_P (dC, dI) vwCl (wG (cM cy ad) ad 40 σ) H → va_D A (wG (cM cy ad) ad 40 σ) → va_S A s.heap H locs → lv_has ls 6 [(0, .ref (ad 0)), (1, .int x1)] → W p l e (headSpec wsX12_sits ({ frames := 2, cells := 0, slots := 0, locals := 45 })).room s m (#[.ref (ad 0), .int a1]) below meth c H locs 0 0 (MQ below (va_Qv (fun (_ : Unit) => True) (fun (_ : Unit) t => wAt (dC, dI) A (wG (cM cy ad) ad 40 σ9) t) A) (#[.ref (ad 0), .int a1]) s 0 0 A) (F0 m 0 ls []) := by
    intro σ x1 H locs ls h hP hD hS hl
    unfold fX12_sits_0 at h
    refine lv_iconst (v := 0) hx hb dX12_sits_0 (by decide) ?_
    refine lv_istore_n (lv' := [(2, .int 0), (0, .ref (ad 0)), (1, .int x1)]) hx hb dX12_sits_1 rfl hl (by decide) rfl (fun ls hl => ?_)
    have hl := lv_sub hl [1, 2, 0] (l' := [(0, .ref (ad 0)), (1, .int x1), (2, .int 0)]) rfl
    exact w2 FU σ x1 0 H locs ls h hP hD hS hl
  intro H locs ls h hP hD hS hl
  exact w0 σ a1 H locs ls h hP hD hS (lv_sub hl [0, 1] rfl)

set_option maxHeartbeats 4000000 in
set_option maxRecDepth 100000 in
theorem tX12_table (l : Launch) (dC : Nat → ClassId) (dI : Nat → Nat → Nat) (cy : Nat → ClassId) (ad : Nat → Nat) (σ : S2) (a1 : Int32) (a2 : Int32) (sz : Nat) (r0 : Int32) (σ9 : S2) (h : fX12_table σ a1 a2 = some (r0, σ9)) : Met l yX12_table wsX12_table ({ frames := 29, cells := 0, slots := 0, locals := 665 }) (va_Pc [.ref (ad 0), .int a1, .int a2] (wPre (dC, dI) cy (wG (cM cy ad) ad 40 σ) sz)) (va_Qi (fun (r : Int32) (_ : Unit) => r = r0) (fun (_ : Unit) t => wAt (dC, dI) (va_A (wG (cM cy ad) ad 40 σ) sz) (wG (cM cy ad) ad 40 σ9) t) (va_A (wG (cM cy ad) ad 40 σ) sz)) 0 0 (va_A (wG (cM cy ad) ad 40 σ) sz) := by
  refine Met.ofW (cc := cX12_table) (maxL := 5) (ret := (some .int)) (by decide) rfl ?_
  intro p e s m args below meth c s₁ B hml hv
  obtain ⟨rfl, hsz, hP, hK, hD0, hN⟩ := hv
  have hx := B.exec
  have hb := B.bytes
  have hr := B.returns
  have hts := atoms_spec (ws := wsX12_table) B.pre
  have hown : s.vm.findClass RX12 = some m.cls := findClass_of_methodNamed B.named
  have hlocks := B.notSynchronized
  subst hsz
  have hD := hD0.self (sz := s.heap.size)
  generalize hAe : va_A (wG (cM cy ad) ad 40 σ) s.heap.size = A at hD ⊢
  have hA : ∀ q : Nat, s.heap.size ≤ q → A q := fun q h => by rw [← hAe]; exact Or.inr h
  have hS : va_S A s.heap s.heap [] := va_S.rf
  have hl := lv_entry ([.ref (ad 0), .int a1, .int a2]) (n := 5) (Nat.le_of_ble_eq_true rfl)
  rw [lg_entry_eq]
  generalize (lg_sl ([.ref (ad 0), .int a1, .int a2]) ++ List.replicate (5 - (lg_sl ([.ref (ad 0), .int a1, .int a2])).length) Slot.unset).toArray = ls at hl ⊢
  have hl : lv_has ls 5 [(0, .ref (ad 0)), (1, .int a1), (2, .int a2)] := hl
  unfold fX12_table at h
  clear hAe hD0
  suffices HH : ∀ (H : Heap) (locs : List Loc) (ls : Array Slot), fX12_table_0 σ a1 a2 = some (r0, σ9) → va_P (dC, dI) vwCl (wG (cM cy ad) ad 40 σ) H → va_D A (wG (cM cy ad) ad 40 σ) → va_S A s.heap H locs → lv_has ls 5 [(0, .ref (ad 0)), (1, .int a1), (2, .int a2)] → W p l e (headSpec wsX12_table ({ frames := 29, cells := 0, slots := 0, locals := 665 })).room s m (#[.ref (ad 0), .int a1, .int a2]) below meth c H locs 0 0 (MQ below (va_Qi (fun (r : Int32) (_ : Unit) => r = r0) (fun (_ : Unit) t => wAt (dC, dI) A (wG (cM cy ad) ad 40 σ9) t) A) (#[.ref (ad 0), .int a1, .int a2]) s 0 0 A) (F0 m 0 ls []) from HH s.heap [] ls h hP hD hS hl
  have w115 : ∀ (n : Nat), ∀ (σ : S2) (x3 : Int32) (x4 : Int32) (H : Heap) (locs : List Loc) (ls : Array Slot), fX12_table_115 n σ x3 x4 = some (r0, σ9) → va_P (dC, dI) vwCl (wG (cM cy ad) ad 40 σ) H → va_D A (wG (cM cy ad) ad 40 σ) → va_S A s.heap H locs → lv_has ls 5 [(0, .ref (ad 0)), (3, .int x3), (4, .int x4)] → W p l e (headSpec wsX12_table ({ frames := 29, cells := 0, slots := 0, locals := 665 })).room s m (#[.ref (ad 0), .int a1, .int a2]) below meth c H locs 0 0 (MQ below (va_Qi (fun (r : Int32) (_ : Unit) => r = r0) (fun (_ : Unit) t => wAt (dC, dI) A (wG (cM cy ad) ad 40 σ9) t) A) (#[.ref (ad 0), .int a1, .int a2]) s 0 0 A) (F0 m 115 ls []) := by
    intro n
    induction n with
    | zero => intro σ x3 x4 H locs ls h; cases h
    | succ n ih =>
    intro σ x3 x4 H locs ls h hP hD hS hl
    unfold fX12_table_115 at h
    refine lv_iload hx hb dX12_table_115 (lv_at hl 2 rfl) ?_
    refine lv_aload_n hx hb dX12_table_117 rfl (lv_at hl 0 rfl) ?_
    refine ux_get (D := (dC, dI)) (ci := 12) (v := .int (σ.1 0 22)) (C := RX12) (T := TX12) (M := 59) (fs := (oM ad (σ.1 0))) hx hb hts (fun _ h9 => List.mem_cons_of_mem _ (List.mem_append_right _ h9)) hown hK hP 0 (Nat.le_of_ble_eq_true rfl) rfl rfl 22 (by decide) (hts (.fieldLink RX12 146 "SeatsRoundModel" "taped" "I") (List.mem_of_getElem? (i := 9) rfl)) (fun _ h9 => h9) rfl dX12_table_118 ?_
    refine lv_icmp_ge (tgt := 149) hx hb dX12_table_121 (by decide) (fun hcd => ?_) (fun hcd => ?_)
    · have h := cdP hcd h
      refine lv_aload_n hx hb dX12_table_149 rfl (lv_at hl 0 rfl) ?_
      refine lv_iconst (v := 0) hx hb dX12_table_150 (by decide) ?_
      refine ux_put (D := (dC, dI)) (ci := 12) (C := RX12) (T := TX12) (M := 59) (fs := (oM ad (σ.1 0))) hx hb hts (fun _ h9 => List.mem_cons_of_mem _ (List.mem_append_right _ h9)) tyX12 tyX12_ok nmX12 hown hK hP hD hS 0 (Nat.le_of_ble_eq_true rfl) rfl rfl 22 (by decide) (hts (.fieldLink RX12 146 "SeatsRoundModel" "taped" "I") (List.mem_of_getElem? (i := 9) rfl)) (fun _ h9 => h9) rfl (tyX12_ok 22 (by decide)) rfl rfl (Nat.le_of_ble_eq_true rfl) (oM_set_22 _ _ _ _ _) h dX12_table_151 (fun σ1 H locs h hP hD hS => ?_)
      refine lv_aload_n hx hb dX12_table_154 rfl (lv_at hl 0 rfl) ?_
      refine lv_iload_n hx hb dX12_table_155 rfl (lv_at hl 1 rfl) ?_
      obtain ⟨r2, σ3, hf4, h⟩ := bsS h
      refine ux_callv (va_runV (As := [.int x3]) (rest := []) ⟨hx, hb, hml, hown, hts⟩ (tX12_numbers l dC dI cy ad σ1 x3 H.size r2 σ3 hf4) (cwV 1 hts gX12_table_X12_numbers rfl rfl rfl (by decide +kernel) ⟨Nat.le_of_ble_eq_true rfl, Nat.le_of_ble_eq_true rfl⟩) (wp_V hK hN hP hD (va_recv hK hP (ci := 12) (q0 := 0) rfl (wG_of (Nat.le_of_ble_eq_true rfl) rfl))) rfl rfl hl.1 rfl (lv_room (Nat.le_of_ble_eq_true rfl)) dX12_table_156 ⟨Nat.le_of_ble_eq_true rfl, Nat.le_of_ble_eq_true rfl⟩) hD hS hA (fun H locs hP hD hS => ?_)
      refine lv_aload_n hx hb dX12_table_159 rfl (lv_at hl 0 rfl) ?_
      refine lv_iload_n hx hb dX12_table_160 rfl (lv_at hl 1 rfl) ?_
      obtain ⟨r5, σ6, hf7, h⟩ := bsS h
      refine ux_calli (va_runV (As := [.int x3]) (rest := []) ⟨hx, hb, hml, hown, hts⟩ (tX12_reads l dC dI cy ad σ3 x3 H.size r5 σ6 hf7) (cwV 1 hts gX12_table_X12_reads rfl rfl rfl (by decide +kernel) ⟨Nat.le_of_ble_eq_true rfl, Nat.le_of_ble_eq_true rfl⟩) (wp_V hK hN hP hD (va_recv hK hP (ci := 12) (q0 := 0) rfl (wG_of (Nat.le_of_ble_eq_true rfl) rfl))) rfl rfl hl.1 rfl (lv_room (Nat.le_of_ble_eq_true rfl)) dX12_table_161 ⟨Nat.le_of_ble_eq_true rfl, Nat.le_of_ble_eq_true rfl⟩) hD hS hA (fun H locs hP hD hS => ?_)
      refine lv_istore (lv' := [(4, .int r5), (0, .ref (ad 0)), (3, .int x3)]) hx hb dX12_table_164 hl (by decide) rfl (fun ls hl => ?_)
      have hl := lv_sub hl [1, 2, 0] (l' := [(0, .ref (ad 0)), (3, .int x3), (4, .int r5)]) rfl
      refine lv_iload hx hb dX12_table_166 (lv_at hl 2 rfl) ?_
      refine lv_if_lt (tgt := 177) hx hb dX12_table_168 (by decide) (fun hcd => ?_) (fun hcd => ?_)
      · have h := cdP hcd h
        refine lv_aload_n hx hb dX12_table_177 rfl (lv_at hl 0 rfl) ?_
        refine lv_iload_n hx hb dX12_table_178 rfl (lv_at hl 1 rfl) ?_
        obtain ⟨r8, σ9, hf10, h⟩ := bsS h
        refine ux_callv (va_runV (As := [.int x3]) (rest := []) ⟨hx, hb, hml, hown, hts⟩ (tX12_sits l dC dI cy ad σ6 x3 H.size r8 σ9 hf10) (cwV 1 hts gX12_table_X12_sits rfl rfl rfl (by decide +kernel) ⟨Nat.le_of_ble_eq_true rfl, Nat.le_of_ble_eq_true rfl⟩) (wp_V hK hN hP hD (va_recv hK hP (ci := 12) (q0 := 0) rfl (wG_of (Nat.le_of_ble_eq_true rfl) rfl))) rfl rfl hl.1 rfl (lv_room (Nat.le_of_ble_eq_true rfl)) dX12_table_179 ⟨Nat.le_of_ble_eq_true rfl, Nat.le_of_ble_eq_true rfl⟩) hD hS hA (fun H locs hP hD hS => ?_)
        refine lv_aload_n hx hb dX12_table_182 rfl (lv_at hl 0 rfl) ?_
        refine lv_dup hx hb dX12_table_183 rfl ?_
        refine ux_get (D := (dC, dI)) (ci := 12) (v := .int (σ9.1 0 9)) (C := RX12) (T := TX12) (M := 59) (fs := (oM ad (σ9.1 0))) hx hb hts (fun _ h9 => List.mem_cons_of_mem _ (List.mem_append_right _ h9)) hown hK hP 0 (Nat.le_of_ble_eq_true rfl) rfl rfl 9 (by decide) (hts (.fieldLink RX12 143 "SeatsRoundModel" "tables" "I") (List.mem_of_getElem? (i := 2) rfl)) (fun _ h9 => h9) rfl dX12_table_184 ?_
        refine lv_iconst (v := 1) hx hb dX12_table_187 (by decide) ?_
        refine lv_iadd hx hb dX12_table_188 ?_
        refine ux_put (D := (dC, dI)) (ci := 12) (C := RX12) (T := TX12) (M := 59) (fs := (oM ad (σ9.1 0))) hx hb hts (fun _ h9 => List.mem_cons_of_mem _ (List.mem_append_right _ h9)) tyX12 tyX12_ok nmX12 hown hK hP hD hS 0 (Nat.le_of_ble_eq_true rfl) rfl rfl 9 (by decide) (hts (.fieldLink RX12 143 "SeatsRoundModel" "tables" "I") (List.mem_of_getElem? (i := 2) rfl)) (fun _ h9 => h9) rfl (tyX12_ok 9 (by decide)) rfl rfl (Nat.le_of_ble_eq_true rfl) (oM_set_9 _ _ _ _ _) h dX12_table_189 (fun σ11 H locs h hP hD hS => ?_)
        refine lv_iload_n hx hb dX12_table_192 rfl (lv_at hl 1 rfl) ?_
        exact ux_iret hx hb hr h hP hD hS hlocks dX12_table_193
      · have h := cdN hcd h
        refine lv_bipush (v := (-100)) hx hb dX12_table_171 (by decide) ?_
        refine lv_iload hx hb dX12_table_173 (lv_at hl 2 rfl) ?_
        refine lv_isub hx hb dX12_table_175 ?_
        exact ux_iret hx hb hr h hP hD hS hlocks dX12_table_176
    · have h := cdN hcd h
      refine lv_aload_n hx hb dX12_table_124 rfl (lv_at hl 0 rfl) ?_
      refine ux_get (D := (dC, dI)) (ci := 12) (v := .ref (ad 14)) (C := RX12) (T := TX12) (M := 59) (fs := (oM ad (σ.1 0))) hx hb hts (fun _ h9 => List.mem_cons_of_mem _ (List.mem_append_right _ h9)) hown hK hP 0 (Nat.le_of_ble_eq_true rfl) rfl rfl 16 (by decide) (hts (.fieldLink RX12 50 "SeatsRoundModel" "lawByte" "[I") (List.mem_of_getElem? (i := 10) rfl)) (fun _ h9 => h9) rfl dX12_table_125 ?_
      refine lv_bipush (v := 80) hx hb dX12_table_128 (by decide) ?_
      refine lv_iload_n hx hb dX12_table_130 rfl (lv_at hl 1 rfl) ?_
      refine lv_imul hx hb dX12_table_131 ?_
      refine lv_iload hx hb dX12_table_132 (lv_at hl 2 rfl) ?_
      refine lv_iadd hx hb dX12_table_134 ?_
      refine lv_aload_n hx hb dX12_table_135 rfl (lv_at hl 0 rfl) ?_
      change W _ _ _ _ _ _ _ _ _ _ _ _ _ _ _ (F0 m 136 ls [.ref (ad 0), .int ((80 * x3) + x4), .ref (ad 14)])
      refine ux_get (D := (dC, dI)) (ci := 12) (v := .ref (ad 19)) (C := RX12) (T := TX12) (M := 59) (fs := (oM ad (σ.1 0))) hx hb hts (fun _ h9 => List.mem_cons_of_mem _ (List.mem_append_right _ h9)) hown hK hP 0 (Nat.le_of_ble_eq_true rfl) rfl rfl 21 (by decide) (hts (.fieldLink RX12 65 "SeatsRoundModel" "tape" "[I") (List.mem_of_getElem? (i := 11) rfl)) (fun _ h9 => h9) rfl dX12_table_136 ?_
      refine lv_iload hx hb dX12_table_139 (lv_at hl 2 rfl) ?_
      refine ux_iald hx hb hK hP 19 0 (Nat.le_of_ble_eq_true rfl) (cM_19 _ _ _ _) rfl h dX12_table_141 (fun v12 h => ?_)
      refine ux_iast hx hb hK hP hD hS 14 0 (Nat.le_of_ble_eq_true rfl) (fun _ => (cM_14 _ _ _ _)) rfl h dX12_table_142 (fun σ13 H locs h hP hD hS => ?_)
      obtain ⟨v14, ev14⟩ : ∃ y : Int32, y = x4 + 1 := ⟨_, rfl⟩
      have h := nmS h ev14
      refine lv_iinc (v := v14) (lv' := [(4, .int v14), (0, .ref (ad 0)), (3, .int x3)]) hx hb dX12_table_143 hl (k := 2) rfl (by rw [ev14]; rfl) (by decide) rfl (fun ls hl => ?_)
      have hl := lv_sub hl [1, 2, 0] (l' := [(0, .ref (ad 0)), (3, .int x3), (4, .int v14)]) rfl
      refine lv_goto (tgt := 115) hx hb dX12_table_146 (by decide) ?_
      exact ih σ13 x3 v14 H locs ls h hP hD hS hl
  have w50 : ∀ (n : Nat), ∀ (σ : S2) (x3 : Int32) (x4 : Int32) (H : Heap) (locs : List Loc) (ls : Array Slot), fX12_table_50 n σ x3 x4 = some (r0, σ9) → va_P (dC, dI) vwCl (wG (cM cy ad) ad 40 σ) H → va_D A (wG (cM cy ad) ad 40 σ) → va_S A s.heap H locs → lv_has ls 5 [(0, .ref (ad 0)), (3, .int x3), (4, .int x4)] → W p l e (headSpec wsX12_table ({ frames := 29, cells := 0, slots := 0, locals := 665 })).room s m (#[.ref (ad 0), .int a1, .int a2]) below meth c H locs 0 0 (MQ below (va_Qi (fun (r : Int32) (_ : Unit) => r = r0) (fun (_ : Unit) t => wAt (dC, dI) A (wG (cM cy ad) ad 40 σ9) t) A) (#[.ref (ad 0), .int a1, .int a2]) s 0 0 A) (F0 m 50 ls []) := by
    intro n
    induction n with
    | zero => intro σ x3 x4 H locs ls h; cases h
    | succ n ih =>
    intro σ x3 x4 H locs ls h hP hD hS hl
    unfold fX12_table_50 at h
    refine lv_iload hx hb dX12_table_50 (lv_at hl 2 rfl) ?_
    refine lv_aload_n hx hb dX12_table_52 rfl (lv_at hl 0 rfl) ?_
    refine ux_get (D := (dC, dI)) (ci := 12) (v := .int (σ.1 0 3)) (C := RX12) (T := TX12) (M := 59) (fs := (oM ad (σ.1 0))) hx hb hts (fun _ h9 => List.mem_cons_of_mem _ (List.mem_append_right _ h9)) hown hK hP 0 (Nat.le_of_ble_eq_true rfl) rfl rfl 3 (by decide) (hts (.fieldLink RX12 140 "SeatsRoundModel" "keepers" "I") (List.mem_of_getElem? (i := 1) rfl)) (fun _ h9 => h9) rfl dX12_table_53 ?_
    refine lv_icmp_ge (tgt := 102) hx hb dX12_table_56 (by decide) (fun hcd => ?_) (fun hcd => ?_)
    · have h := cdP hcd h
      refine lv_aload_n hx hb dX12_table_102 rfl (lv_at hl 0 rfl) ?_
      refine ux_get (D := (dC, dI)) (ci := 12) (v := .ref (ad 13)) (C := RX12) (T := TX12) (M := 59) (fs := (oM ad (σ.1 0))) hx hb hts (fun _ h9 => List.mem_cons_of_mem _ (List.mem_append_right _ h9)) hown hK hP 0 (Nat.le_of_ble_eq_true rfl) rfl rfl 15 (by decide) (hts (.fieldLink RX12 47 "SeatsRoundModel" "lawSize" "[I") (List.mem_of_getElem? (i := 8) rfl)) (fun _ h9 => h9) rfl dX12_table_103 ?_
      refine lv_iload_n hx hb dX12_table_106 rfl (lv_at hl 1 rfl) ?_
      refine lv_aload_n hx hb dX12_table_107 rfl (lv_at hl 0 rfl) ?_
      refine ux_get (D := (dC, dI)) (ci := 12) (v := .int (σ.1 0 22)) (C := RX12) (T := TX12) (M := 59) (fs := (oM ad (σ.1 0))) hx hb hts (fun _ h9 => List.mem_cons_of_mem _ (List.mem_append_right _ h9)) hown hK hP 0 (Nat.le_of_ble_eq_true rfl) rfl rfl 22 (by decide) (hts (.fieldLink RX12 146 "SeatsRoundModel" "taped" "I") (List.mem_of_getElem? (i := 9) rfl)) (fun _ h9 => h9) rfl dX12_table_108 ?_
      refine ux_iast hx hb hK hP hD hS 13 0 (Nat.le_of_ble_eq_true rfl) (fun _ => (cM_13 _ _ _ _)) rfl h dX12_table_111 (fun σ15 H locs h hP hD hS => ?_)
      refine lv_iconst (v := 0) hx hb dX12_table_112 (by decide) ?_
      refine lv_istore (lv' := [(4, .int 0), (0, .ref (ad 0)), (3, .int x3)]) hx hb dX12_table_113 hl (by decide) rfl (fun ls hl => ?_)
      have hl := lv_sub hl [1, 2, 0] (l' := [(0, .ref (ad 0)), (3, .int x3), (4, .int 0)]) rfl
      exact w115 FU σ15 x3 0 H locs ls h hP hD hS hl
    · have h := cdN hcd h
      refine lv_aload_n hx hb dX12_table_59 rfl (lv_at hl 0 rfl) ?_
      refine ux_get (D := (dC, dI)) (ci := 12) (v := .ref (ad 15)) (C := RX12) (T := TX12) (M := 59) (fs := (oM ad (σ.1 0))) hx hb hts (fun _ h9 => List.mem_cons_of_mem _ (List.mem_append_right _ h9)) hown hK hP 0 (Nat.le_of_ble_eq_true rfl) rfl rfl 17 (by decide) (hts (.fieldLink RX12 53 "SeatsRoundModel" "counts" "[I") (List.mem_of_getElem? (i := 5) rfl)) (fun _ h9 => h9) rfl dX12_table_60 ?_
      refine lv_bipush (v := 12) hx hb dX12_table_63 (by decide) ?_
      refine lv_iload_n hx hb dX12_table_65 rfl (lv_at hl 1 rfl) ?_
      refine lv_imul hx hb dX12_table_66 ?_
      refine lv_iload hx hb dX12_table_67 (lv_at hl 2 rfl) ?_
      refine lv_iadd hx hb dX12_table_69 ?_
      refine lv_aload_n hx hb dX12_table_70 rfl (lv_at hl 0 rfl) ?_
      change W _ _ _ _ _ _ _ _ _ _ _ _ _ _ _ (F0 m 71 ls [.ref (ad 0), .int ((12 * x3) + x4), .ref (ad 15)])
      refine lv_iload hx hb dX12_table_71 (lv_at hl 2 rfl) ?_
      obtain ⟨r16, hf17, h⟩ := biS h
      refine ux_calli (va_runV (As := [.int x4]) (rest := [.int ((12 * x3) + x4), .ref (ad 15)]) ⟨hx, hb, hml, hown, hts⟩ (tX12_countsNow l dC dI cy ad σ x4 H.size r16 hf17) (cwV 1 hts gX12_table_X12_countsNow rfl rfl rfl (by decide +kernel) ⟨Nat.le_of_ble_eq_true rfl, Nat.le_of_ble_eq_true rfl⟩) (wp_V hK hN hP hD (va_recv hK hP (ci := 12) (q0 := 0) rfl (wG_of (Nat.le_of_ble_eq_true rfl) rfl))) rfl rfl hl.1 rfl (lv_room (Nat.le_of_ble_eq_true rfl)) dX12_table_73 ⟨Nat.le_of_ble_eq_true rfl, Nat.le_of_ble_eq_true rfl⟩) hD hS hA (fun H locs hP hD hS => ?_)
      refine ux_iast hx hb hK hP hD hS 15 0 (Nat.le_of_ble_eq_true rfl) (fun _ => (cM_15 _ _ _ _)) rfl h dX12_table_76 (fun σ18 H locs h hP hD hS => ?_)
      refine lv_aload_n hx hb dX12_table_77 rfl (lv_at hl 0 rfl) ?_
      refine ux_get (D := (dC, dI)) (ci := 12) (v := .ref (ad 16)) (C := RX12) (T := TX12) (M := 59) (fs := (oM ad (σ18.1 0))) hx hb hts (fun _ h9 => List.mem_cons_of_mem _ (List.mem_append_right _ h9)) hown hK hP 0 (Nat.le_of_ble_eq_true rfl) rfl rfl 18 (by decide) (hts (.fieldLink RX12 56 "SeatsRoundModel" "streetIn" "[I") (List.mem_of_getElem? (i := 6) rfl)) (fun _ h9 => h9) rfl dX12_table_78 ?_
      refine lv_bipush (v := 12) hx hb dX12_table_81 (by decide) ?_
      refine lv_iload_n hx hb dX12_table_83 rfl (lv_at hl 1 rfl) ?_
      refine lv_imul hx hb dX12_table_84 ?_
      refine lv_iload hx hb dX12_table_85 (lv_at hl 2 rfl) ?_
      refine lv_iadd hx hb dX12_table_87 ?_
      refine lv_aload_n hx hb dX12_table_88 rfl (lv_at hl 0 rfl) ?_
      change W _ _ _ _ _ _ _ _ _ _ _ _ _ _ _ (F0 m 89 ls [.ref (ad 0), .int ((12 * x3) + x4), .ref (ad 16)])
      refine ux_get (D := (dC, dI)) (ci := 12) (v := .ref (ad 3)) (C := RX12) (T := TX12) (M := 59) (fs := (oM ad (σ18.1 0))) hx hb hts (fun _ h9 => List.mem_cons_of_mem _ (List.mem_append_right _ h9)) hown hK hP 0 (Nat.le_of_ble_eq_true rfl) rfl rfl 4 (by decide) (hts (.fieldLink RX12 16 "SeatsRoundModel" "street" "[I") (List.mem_of_getElem? (i := 7) rfl)) (fun _ h9 => h9) rfl dX12_table_89 ?_
      refine lv_iload hx hb dX12_table_92 (lv_at hl 2 rfl) ?_
      refine ux_iald hx hb hK hP 3 0 (Nat.le_of_ble_eq_true rfl) (cM_3 _ _ _ _) rfl h dX12_table_94 (fun v19 h => ?_)
      refine ux_iast hx hb hK hP hD hS 16 0 (Nat.le_of_ble_eq_true rfl) (fun _ => (cM_16 _ _ _ _)) rfl h dX12_table_95 (fun σ20 H locs h hP hD hS => ?_)
      obtain ⟨v21, ev21⟩ : ∃ y : Int32, y = x4 + 1 := ⟨_, rfl⟩
      have h := nmS h ev21
      refine lv_iinc (v := v21) (lv' := [(4, .int v21), (0, .ref (ad 0)), (3, .int x3)]) hx hb dX12_table_96 hl (k := 2) rfl (by rw [ev21]; rfl) (by decide) rfl (fun ls hl => ?_)
      have hl := lv_sub hl [1, 2, 0] (l' := [(0, .ref (ad 0)), (3, .int x3), (4, .int v21)]) rfl
      refine lv_goto (tgt := 50) hx hb dX12_table_99 (by decide) ?_
      exact ih σ20 x3 v21 H locs ls h hP hD hS hl
  have w0 : ∀ (σ : S2) (x1 : Int32) (x2 : Int32) (H : Heap) (locs : List Loc) (ls : Array Slot), fX12_table_0 σ x1 x2 = some (r0, σ9) → va_P (dC, dI) vwCl (wG (cM cy ad) ad 40 σ) H → va_D A (wG (cM cy ad) ad 40 σ) → va_S A s.heap H locs → lv_has ls 5 [(0, .ref (ad 0)), (1, .int x1), (2, .int x2)] → W p l e (headSpec wsX12_table ({ frames := 29, cells := 0, slots := 0, locals := 665 })).room s m (#[.ref (ad 0), .int a1, .int a2]) below meth c H locs 0 0 (MQ below (va_Qi (fun (r : Int32) (_ : Unit) => r = r0) (fun (_ : Unit) t => wAt (dC, dI) A (wG (cM cy ad) ad 40 σ9) t) A) (#[.ref (ad 0), .int a1, .int a2]) s 0 0 A) (F0 m 0 ls []) := by
    intro σ x1 x2 H locs ls h hP hD hS hl
    unfold fX12_table_0 at h
    refine lv_iload_n hx hb dX12_table_0 rfl (lv_at hl 1 rfl) ?_
    refine lv_if_le (tgt := 14) hx hb dX12_table_1 (by decide) (fun hcd => ?_) (fun hcd => ?_)
    · have h := cdP hcd h
      refine lv_iconst (v := (-1)) hx hb dX12_table_14 (by decide) ?_
      exact ux_iret hx hb hr h hP hD hS hlocks dX12_table_15
    · have h := cdN hcd h
      refine lv_iload_n hx hb dX12_table_4 rfl (lv_at hl 1 rfl) ?_
      refine lv_iconst (v := 1) hx hb dX12_table_5 (by decide) ?_
      refine lv_aload_n hx hb dX12_table_6 rfl (lv_at hl 0 rfl) ?_
      refine ux_get (D := (dC, dI)) (ci := 12) (v := .int (σ.1 0 3)) (C := RX12) (T := TX12) (M := 59) (fs := (oM ad (σ.1 0))) hx hb hts (fun _ h9 => List.mem_cons_of_mem _ (List.mem_append_right _ h9)) hown hK hP 0 (Nat.le_of_ble_eq_true rfl) rfl rfl 3 (by decide) (hts (.fieldLink RX12 140 "SeatsRoundModel" "keepers" "I") (List.mem_of_getElem? (i := 1) rfl)) (fun _ h9 => h9) rfl dX12_table_7 ?_
      refine lv_ishl hx hb dX12_table_10 ?_
      refine lv_icmp_lt (tgt := 16) hx hb dX12_table_11 (by decide) (fun hcd => ?_) (fun hcd => ?_)
      · have h := cdP hcd h
        refine lv_aload_n hx hb dX12_table_16 rfl (lv_at hl 0 rfl) ?_
        refine ux_get (D := (dC, dI)) (ci := 12) (v := .int (σ.1 0 9)) (C := RX12) (T := TX12) (M := 59) (fs := (oM ad (σ.1 0))) hx hb hts (fun _ h9 => List.mem_cons_of_mem _ (List.mem_append_right _ h9)) hown hK hP 0 (Nat.le_of_ble_eq_true rfl) rfl rfl 9 (by decide) (hts (.fieldLink RX12 143 "SeatsRoundModel" "tables" "I") (List.mem_of_getElem? (i := 2) rfl)) (fun _ h9 => h9) rfl dX12_table_17 ?_
        refine lv_bipush (v := 10) hx hb dX12_table_20 (by decide) ?_
        refine lv_icmp_ne (tgt := 28) hx hb dX12_table_22 (by decide) (fun hcd => ?_) (fun hcd => ?_)
        · have h := cdN hcd h
          refine lv_aload_n hx hb dX12_table_28 rfl (lv_at hl 0 rfl) ?_
          refine ux_get (D := (dC, dI)) (ci := 12) (v := .int (σ.1 0 9)) (C := RX12) (T := TX12) (M := 59) (fs := (oM ad (σ.1 0))) hx hb hts (fun _ h9 => List.mem_cons_of_mem _ (List.mem_append_right _ h9)) hown hK hP 0 (Nat.le_of_ble_eq_true rfl) rfl rfl 9 (by decide) (hts (.fieldLink RX12 143 "SeatsRoundModel" "tables" "I") (List.mem_of_getElem? (i := 2) rfl)) (fun _ h9 => h9) rfl dX12_table_29 ?_
          refine lv_topi (fun v22 ev22 => ?_)
          have h := nmS h ev22
          refine lv_istore_n (lv' := [(3, .int v22), (0, .ref (ad 0)), (1, .int x1), (2, .int x2)]) hx hb dX12_table_32 rfl hl (by decide) rfl (fun ls hl => ?_)
          have hl := lv_sub hl [1, 2, 3, 0] (l' := [(0, .ref (ad 0)), (1, .int x1), (2, .int x2), (3, .int v22)]) rfl
          refine lv_aload_n hx hb dX12_table_33 rfl (lv_at hl 0 rfl) ?_
          refine ux_get (D := (dC, dI)) (ci := 12) (v := .ref (ad 8)) (C := RX12) (T := TX12) (M := 59) (fs := (oM ad (σ.1 0))) hx hb hts (fun _ h9 => List.mem_cons_of_mem _ (List.mem_append_right _ h9)) hown hK hP 0 (Nat.le_of_ble_eq_true rfl) rfl rfl 10 (by decide) (hts (.fieldLink RX12 32 "SeatsRoundModel" "tableOf" "[I") (List.mem_of_getElem? (i := 3) rfl)) (fun _ h9 => h9) rfl dX12_table_34 ?_
          refine lv_iload_n hx hb dX12_table_37 rfl (lv_at hl 3 rfl) ?_
          refine lv_iload_n hx hb dX12_table_38 rfl (lv_at hl 1 rfl) ?_
          refine ux_iast hx hb hK hP hD hS 8 0 (Nat.le_of_ble_eq_true rfl) (fun _ => (cM_8 _ _ _ _)) rfl h dX12_table_39 (fun σ23 H locs h hP hD hS => ?_)
          refine lv_aload_n hx hb dX12_table_40 rfl (lv_at hl 0 rfl) ?_
          refine ux_get (D := (dC, dI)) (ci := 12) (v := .ref (ad 9)) (C := RX12) (T := TX12) (M := 59) (fs := (oM ad (σ23.1 0))) hx hb hts (fun _ h9 => List.mem_cons_of_mem _ (List.mem_append_right _ h9)) hown hK hP 0 (Nat.le_of_ble_eq_true rfl) rfl rfl 11 (by decide) (hts (.fieldLink RX12 35 "SeatsRoundModel" "tableZ" "[I") (List.mem_of_getElem? (i := 4) rfl)) (fun _ h9 => h9) rfl dX12_table_41 ?_
          refine lv_iload_n hx hb dX12_table_44 rfl (lv_at hl 3 rfl) ?_
          refine lv_iload_n hx hb dX12_table_45 rfl (lv_at hl 2 rfl) ?_
          refine ux_iast hx hb hK hP hD hS 9 0 (Nat.le_of_ble_eq_true rfl) (fun _ => (cM_9 _ _ _ _)) rfl h dX12_table_46 (fun σ24 H locs h hP hD hS => ?_)
          refine lv_iconst (v := 0) hx hb dX12_table_47 (by decide) ?_
          refine lv_istore (lv' := [(4, .int 0), (0, .ref (ad 0)), (1, .int x1), (2, .int x2), (3, .int v22)]) hx hb dX12_table_48 hl (by decide) rfl (fun ls hl => ?_)
          have hl := lv_sub hl [1, 2, 3, 4, 0] (l' := [(0, .ref (ad 0)), (1, .int x1), (2, .int x2), (3, .int v22), (4, .int 0)]) rfl
          exact w50 FU σ24 v22 0 H locs ls h hP hD hS (lv_sub hl [0, 3, 4] rfl)
        · have h := cdP hcd h
          refine lv_bipush (v := (-3)) hx hb dX12_table_25 (by decide) ?_
          exact ux_iret hx hb hr h hP hD hS hlocks dX12_table_27
      · have h := cdN hcd h
        refine lv_iconst (v := (-1)) hx hb dX12_table_14 (by decide) ?_
        exact ux_iret hx hb hr h hP hD hS hlocks dX12_table_15
  intro H locs ls h hP hD hS hl
  exact w0 σ a1 a2 H locs ls h hP hD hS (lv_sub hl [0, 1, 2] rfl)

set_option maxHeartbeats 4000000 in
set_option maxRecDepth 100000 in
theorem tX12_pickNext (l : Launch) (dC : Nat → ClassId) (dI : Nat → Nat → Nat) (cy : Nat → ClassId) (ad : Nat → Nat) (σ : S2) (a1 : Int32) (a2 : Int32) (a3 : Int32) (sz : Nat) (r0 : Unit) (σ9 : S2) (h : fX12_pickNext σ a1 a2 a3 = some (r0, σ9)) : Met l yX12_pickNext wsX12_pickNext ({ frames := 1, cells := 0, slots := 0, locals := 23 }) (va_Pc [.ref (ad 0), .int a1, .int a2, .int a3] (wPre (dC, dI) cy (wG (cM cy ad) ad 40 σ) sz)) (va_Qv (fun (_ : Unit) => True) (fun (_ : Unit) t => wAt (dC, dI) (va_A (wG (cM cy ad) ad 40 σ) sz) (wG (cM cy ad) ad 40 σ9) t) (va_A (wG (cM cy ad) ad 40 σ) sz)) 0 0 (va_A (wG (cM cy ad) ad 40 σ) sz) := by
  refine Met.ofW (cc := cX12_pickNext) (maxL := 5) (ret := none) (by decide) rfl ?_
  intro p e s m args below meth c s₁ B hml hv
  obtain ⟨rfl, hsz, hP, hK, hD0, hN⟩ := hv
  have hx := B.exec
  have hb := B.bytes
  have hr := B.returns
  have hts := atoms_spec (ws := wsX12_pickNext) B.pre
  have hown : s.vm.findClass RX12 = some m.cls := findClass_of_methodNamed B.named
  have hlocks := B.notSynchronized
  subst hsz
  have hD := hD0.self (sz := s.heap.size)
  generalize hAe : va_A (wG (cM cy ad) ad 40 σ) s.heap.size = A at hD ⊢
  have hA : ∀ q : Nat, s.heap.size ≤ q → A q := fun q h => by rw [← hAe]; exact Or.inr h
  have hS : va_S A s.heap s.heap [] := va_S.rf
  have hl := lv_entry ([.ref (ad 0), .int a1, .int a2, .int a3]) (n := 5) (Nat.le_of_ble_eq_true rfl)
  rw [lg_entry_eq]
  generalize (lg_sl ([.ref (ad 0), .int a1, .int a2, .int a3]) ++ List.replicate (5 - (lg_sl ([.ref (ad 0), .int a1, .int a2, .int a3])).length) Slot.unset).toArray = ls at hl ⊢
  have hl : lv_has ls 5 [(0, .ref (ad 0)), (1, .int a1), (2, .int a2), (3, .int a3)] := hl
  unfold fX12_pickNext at h
  clear hAe hD0
  suffices HH : ∀ (H : Heap) (locs : List Loc) (ls : Array Slot), fX12_pickNext_0 σ a1 a2 a3 = some (r0, σ9) → va_P (dC, dI) vwCl (wG (cM cy ad) ad 40 σ) H → va_D A (wG (cM cy ad) ad 40 σ) → va_S A s.heap H locs → lv_has ls 5 [(0, .ref (ad 0)), (1, .int a1), (2, .int a2), (3, .int a3)] → W p l e (headSpec wsX12_pickNext ({ frames := 1, cells := 0, slots := 0, locals := 23 })).room s m (#[.ref (ad 0), .int a1, .int a2, .int a3]) below meth c H locs 0 0 (MQ below (va_Qv (fun (_ : Unit) => True) (fun (_ : Unit) t => wAt (dC, dI) A (wG (cM cy ad) ad 40 σ9) t) A) (#[.ref (ad 0), .int a1, .int a2, .int a3]) s 0 0 A) (F0 m 0 ls []) from HH s.heap [] ls h hP hD hS hl
  have w41 : ∀ (k3 : S2 → Int32 → Int32 → Int32 → Option (Unit × S2)) (hk3 : ∀ (σ : S2) (x1 : Int32) (x3 : Int32) (x4 : Int32) (H : Heap) (locs : List Loc) (ls : Array Slot), k3 σ x1 x3 x4 = some (r0, σ9) → va_P (dC, dI) vwCl (wG (cM cy ad) ad 40 σ) H → va_D A (wG (cM cy ad) ad 40 σ) → va_S A s.heap H locs → lv_has ls 5 [(0, .ref (ad 0)), (1, .int x1), (3, .int x3), (4, .int x4)] → W p l e (headSpec wsX12_pickNext ({ frames := 1, cells := 0, slots := 0, locals := 23 })).room s m (#[.ref (ad 0), .int a1, .int a2, .int a3]) below meth c H locs 0 0 (MQ below (va_Qv (fun (_ : Unit) => True) (fun (_ : Unit) t => wAt (dC, dI) A (wG (cM cy ad) ad 40 σ9) t) A) (#[.ref (ad 0), .int a1, .int a2, .int a3]) s 0 0 A) (F0 m 3 ls [])) , ∀ (σ : S2) (x1 : Int32) (x3 : Int32) (x4 : Int32) (H : Heap) (locs : List Loc) (ls : Array Slot), fX12_pickNext_41 k3 σ x1 x3 x4 = some (r0, σ9) → va_P (dC, dI) vwCl (wG (cM cy ad) ad 40 σ) H → va_D A (wG (cM cy ad) ad 40 σ) → va_S A s.heap H locs → lv_has ls 5 [(0, .ref (ad 0)), (1, .int x1), (3, .int x3), (4, .int x4)] → W p l e (headSpec wsX12_pickNext ({ frames := 1, cells := 0, slots := 0, locals := 23 })).room s m (#[.ref (ad 0), .int a1, .int a2, .int a3]) below meth c H locs 0 0 (MQ below (va_Qv (fun (_ : Unit) => True) (fun (_ : Unit) t => wAt (dC, dI) A (wG (cM cy ad) ad 40 σ9) t) A) (#[.ref (ad 0), .int a1, .int a2, .int a3]) s 0 0 A) (F0 m 41 ls []) := by
    intro k3 hk3 σ x1 x3 x4 H locs ls h hP hD hS hl
    unfold fX12_pickNext_41 at h
    refine lv_iload hx hb dX12_pickNext_41 (lv_at hl 3 rfl) ?_
    refine lv_iconst (v := 1) hx hb dX12_pickNext_43 (by decide) ?_
    refine lv_iadd hx hb dX12_pickNext_44 ?_
    refine lv_sipush (v := 1000) hx hb dX12_pickNext_45 (by decide) ?_
    obtain ⟨hz1, h⟩ := dzS h
    refine lv_irem hx hb dX12_pickNext_48 hz1 ?_
    refine lv_topi (fun v2 ev2 => ?_)
    have h := nmS h ev2
    refine lv_istore (lv' := [(4, .int v2), (0, .ref (ad 0)), (1, .int x1), (3, .int x3)]) hx hb dX12_pickNext_49 hl (by decide) rfl (fun ls hl => ?_)
    have hl := lv_sub hl [1, 2, 3, 0] (l' := [(0, .ref (ad 0)), (1, .int x1), (3, .int x3), (4, .int v2)]) rfl
    refine lv_goto (tgt := 3) hx hb dX12_pickNext_51 (by decide) ?_
    exact hk3 σ x1 x3 v2 H locs ls h hP hD hS hl
  have w3 : ∀ (n : Nat), ∀ (σ : S2) (x1 : Int32) (x3 : Int32) (x4 : Int32) (H : Heap) (locs : List Loc) (ls : Array Slot), fX12_pickNext_3 n σ x1 x3 x4 = some (r0, σ9) → va_P (dC, dI) vwCl (wG (cM cy ad) ad 40 σ) H → va_D A (wG (cM cy ad) ad 40 σ) → va_S A s.heap H locs → lv_has ls 5 [(0, .ref (ad 0)), (1, .int x1), (3, .int x3), (4, .int x4)] → W p l e (headSpec wsX12_pickNext ({ frames := 1, cells := 0, slots := 0, locals := 23 })).room s m (#[.ref (ad 0), .int a1, .int a2, .int a3]) below meth c H locs 0 0 (MQ below (va_Qv (fun (_ : Unit) => True) (fun (_ : Unit) t => wAt (dC, dI) A (wG (cM cy ad) ad 40 σ9) t) A) (#[.ref (ad 0), .int a1, .int a2, .int a3]) s 0 0 A) (F0 m 3 ls []) := by
    intro n
    induction n with
    | zero => intro σ x1 x3 x4 H locs ls h; cases h
    | succ n ih =>
    intro σ x1 x3 x4 H locs ls h hP hD hS hl
    unfold fX12_pickNext_3 at h
    refine lv_aload_n hx hb dX12_pickNext_3 rfl (lv_at hl 0 rfl) ?_
    refine ux_get (D := (dC, dI)) (ci := 12) (v := .ref (ad 18)) (C := RX12) (T := TX12) (M := 59) (fs := (oM ad (σ.1 0))) hx hb hts (fun _ h9 => List.mem_cons_of_mem _ (List.mem_append_right _ h9)) hown hK hP 0 (Nat.le_of_ble_eq_true rfl) rfl rfl 20 (by decide) (hts (.fieldLink RX12 62 "SeatsRoundModel" "seats" "[I") (List.mem_of_getElem? (i := 1) rfl)) (fun _ h9 => h9) rfl dX12_pickNext_4 ?_
    refine lv_sipush (v := 1000) hx hb dX12_pickNext_7 (by decide) ?_
    refine lv_iload_n hx hb dX12_pickNext_10 rfl (lv_at hl 1 rfl) ?_
    refine lv_imul hx hb dX12_pickNext_11 ?_
    refine lv_iload hx hb dX12_pickNext_12 (lv_at hl 3 rfl) ?_
    refine lv_iadd hx hb dX12_pickNext_14 ?_
    refine ux_iald hx hb hK hP 18 0 (Nat.le_of_ble_eq_true rfl) (cM_18 _ _ _ _) rfl h dX12_pickNext_15 (fun v3 h => ?_)
    change W _ _ _ _ _ _ _ _ _ _ _ _ _ _ _ (F0 m 16 ls [.int v3])
    refine lv_iconst (v := (-1)) hx hb dX12_pickNext_16 (by decide) ?_
    refine lv_icmp_eq (tgt := 41) hx hb dX12_pickNext_17 (by decide) (fun hcd => ?_) (fun hcd => ?_)
    · have h := cdP hcd h
      exact w41 _ ih σ x1 x3 x4 H locs ls h hP hD hS hl
    · have h := cdN hcd h
      refine lv_iload_n hx hb dX12_pickNext_20 rfl (lv_at hl 2 rfl) ?_
      refine lv_aload_n hx hb dX12_pickNext_21 rfl (lv_at hl 0 rfl) ?_
      refine ux_get (D := (dC, dI)) (ci := 12) (v := .ref (ad 18)) (C := RX12) (T := TX12) (M := 59) (fs := (oM ad (σ.1 0))) hx hb hts (fun _ h9 => List.mem_cons_of_mem _ (List.mem_append_right _ h9)) hown hK hP 0 (Nat.le_of_ble_eq_true rfl) rfl rfl 20 (by decide) (hts (.fieldLink RX12 62 "SeatsRoundModel" "seats" "[I") (List.mem_of_getElem? (i := 1) rfl)) (fun _ h9 => h9) rfl dX12_pickNext_22 ?_
      refine lv_sipush (v := 1000) hx hb dX12_pickNext_25 (by decide) ?_
      refine lv_iload_n hx hb dX12_pickNext_28 rfl (lv_at hl 1 rfl) ?_
      refine lv_imul hx hb dX12_pickNext_29 ?_
      refine lv_iload hx hb dX12_pickNext_30 (lv_at hl 3 rfl) ?_
      refine lv_iadd hx hb dX12_pickNext_32 ?_
      change W _ _ _ _ _ _ _ _ _ _ _ _ _ _ _ (F0 m 33 ls [.int ((1000 * x1) + x4), .ref (ad 18), .int x3])
      refine ux_iald hx hb hK hP 18 0 (Nat.le_of_ble_eq_true rfl) (cM_18 _ _ _ _) rfl h dX12_pickNext_33 (fun v4 h => ?_)
      refine lv_ishr hx hb dX12_pickNext_34 ?_
      refine lv_iconst (v := 1) hx hb dX12_pickNext_35 (by decide) ?_
      refine lv_iand hx hb dX12_pickNext_36 ?_
      refine lv_iconst (v := 1) hx hb dX12_pickNext_37 (by decide) ?_
      refine lv_icmp_ne (tgt := 54) hx hb dX12_pickNext_38 (by decide) (fun hcd => ?_) (fun hcd => ?_)
      · have h := cdN hcd h
        refine lv_aload_n hx hb dX12_pickNext_54 rfl (lv_at hl 0 rfl) ?_
        refine ux_get (D := (dC, dI)) (ci := 12) (v := .ref (ad 35)) (C := RX12) (T := TX12) (M := 59) (fs := (oM ad (σ.1 0))) hx hb hts (fun _ h9 => List.mem_cons_of_mem _ (List.mem_append_right _ h9)) hown hK hP 0 (Nat.le_of_ble_eq_true rfl) rfl rfl 52 (by decide) (hts (.fieldLink RX12 118 "SeatsRoundModel" "picked" "[I") (List.mem_of_getElem? (i := 2) rfl)) (fun _ h9 => h9) rfl dX12_pickNext_55 ?_
        refine lv_aload_n hx hb dX12_pickNext_58 rfl (lv_at hl 0 rfl) ?_
        refine ux_get (D := (dC, dI)) (ci := 12) (v := .int (σ.1 0 53)) (C := RX12) (T := TX12) (M := 59) (fs := (oM ad (σ.1 0))) hx hb hts (fun _ h9 => List.mem_cons_of_mem _ (List.mem_append_right _ h9)) hown hK hP 0 (Nat.le_of_ble_eq_true rfl) rfl rfl 53 (by decide) (hts (.fieldLink RX12 240 "SeatsRoundModel" "pickedMany" "I") (List.mem_of_getElem? (i := 3) rfl)) (fun _ h9 => h9) rfl dX12_pickNext_59 ?_
        refine lv_aload_n hx hb dX12_pickNext_62 rfl (lv_at hl 0 rfl) ?_
        refine ux_get (D := (dC, dI)) (ci := 12) (v := .ref (ad 18)) (C := RX12) (T := TX12) (M := 59) (fs := (oM ad (σ.1 0))) hx hb hts (fun _ h9 => List.mem_cons_of_mem _ (List.mem_append_right _ h9)) hown hK hP 0 (Nat.le_of_ble_eq_true rfl) rfl rfl 20 (by decide) (hts (.fieldLink RX12 62 "SeatsRoundModel" "seats" "[I") (List.mem_of_getElem? (i := 1) rfl)) (fun _ h9 => h9) rfl dX12_pickNext_63 ?_
        refine lv_sipush (v := 1000) hx hb dX12_pickNext_66 (by decide) ?_
        refine lv_iload_n hx hb dX12_pickNext_69 rfl (lv_at hl 1 rfl) ?_
        change W _ _ _ _ _ _ _ _ _ _ _ _ _ _ _ (F0 m 70 ls [.int x1, .int 1000, .ref (ad 18), .int (σ.1 0 53), .ref (ad 35)])
        refine lv_imul hx hb dX12_pickNext_70 ?_
        refine lv_iload hx hb dX12_pickNext_71 (lv_at hl 3 rfl) ?_
        refine lv_iadd hx hb dX12_pickNext_73 ?_
        refine ux_iald hx hb hK hP 18 0 (Nat.le_of_ble_eq_true rfl) (cM_18 _ _ _ _) rfl h dX12_pickNext_74 (fun v5 h => ?_)
        refine ux_iast hx hb hK hP hD hS 35 0 (Nat.le_of_ble_eq_true rfl) (fun _ => (cM_35 _ _ _ _)) rfl h dX12_pickNext_75 (fun σ6 H locs h hP hD hS => ?_)
        refine lv_aload_n hx hb dX12_pickNext_76 rfl (lv_at hl 0 rfl) ?_
        refine lv_dup hx hb dX12_pickNext_77 rfl ?_
        refine ux_get (D := (dC, dI)) (ci := 12) (v := .int (σ6.1 0 53)) (C := RX12) (T := TX12) (M := 59) (fs := (oM ad (σ6.1 0))) hx hb hts (fun _ h9 => List.mem_cons_of_mem _ (List.mem_append_right _ h9)) hown hK hP 0 (Nat.le_of_ble_eq_true rfl) rfl rfl 53 (by decide) (hts (.fieldLink RX12 240 "SeatsRoundModel" "pickedMany" "I") (List.mem_of_getElem? (i := 3) rfl)) (fun _ h9 => h9) rfl dX12_pickNext_78 ?_
        refine lv_iconst (v := 1) hx hb dX12_pickNext_81 (by decide) ?_
        refine lv_iadd hx hb dX12_pickNext_82 ?_
        refine ux_put (D := (dC, dI)) (ci := 12) (C := RX12) (T := TX12) (M := 59) (fs := (oM ad (σ6.1 0))) hx hb hts (fun _ h9 => List.mem_cons_of_mem _ (List.mem_append_right _ h9)) tyX12 tyX12_ok nmX12 hown hK hP hD hS 0 (Nat.le_of_ble_eq_true rfl) rfl rfl 53 (by decide) (hts (.fieldLink RX12 240 "SeatsRoundModel" "pickedMany" "I") (List.mem_of_getElem? (i := 3) rfl)) (fun _ h9 => h9) rfl (tyX12_ok 53 (by decide)) rfl rfl (Nat.le_of_ble_eq_true rfl) (oM_set_53 _ _ _ _ _) h dX12_pickNext_83 (fun σ7 H locs h hP hD hS => ?_)
        exact ux_vret hx hb hr h hP hD hS hlocks dX12_pickNext_86
      · have h := cdP hcd h
        exact w41 _ ih σ x1 x3 x4 H locs ls h hP hD hS hl
  have w0 : ∀ (σ : S2) (x1 : Int32) (x2 : Int32) (x3 : Int32) (H : Heap) (locs : List Loc) (ls : Array Slot), fX12_pickNext_0 σ x1 x2 x3 = some (r0, σ9) → va_P (dC, dI) vwCl (wG (cM cy ad) ad 40 σ) H → va_D A (wG (cM cy ad) ad 40 σ) → va_S A s.heap H locs → lv_has ls 5 [(0, .ref (ad 0)), (1, .int x1), (2, .int x2), (3, .int x3)] → W p l e (headSpec wsX12_pickNext ({ frames := 1, cells := 0, slots := 0, locals := 23 })).room s m (#[.ref (ad 0), .int a1, .int a2, .int a3]) below meth c H locs 0 0 (MQ below (va_Qv (fun (_ : Unit) => True) (fun (_ : Unit) t => wAt (dC, dI) A (wG (cM cy ad) ad 40 σ9) t) A) (#[.ref (ad 0), .int a1, .int a2, .int a3]) s 0 0 A) (F0 m 0 ls []) := by
    intro σ x1 x2 x3 H locs ls h hP hD hS hl
    unfold fX12_pickNext_0 at h
    refine lv_iload_n hx hb dX12_pickNext_0 rfl (lv_at hl 2 rfl) ?_
    refine lv_istore (lv' := [(4, .int x2), (0, .ref (ad 0)), (1, .int x1), (2, .int x2), (3, .int x3)]) hx hb dX12_pickNext_1 hl (by decide) rfl (fun ls hl => ?_)
    have hl := lv_sub hl [1, 2, 3, 4, 0] (l' := [(0, .ref (ad 0)), (1, .int x1), (2, .int x2), (3, .int x3), (4, .int x2)]) rfl
    exact w3 FU σ x1 x3 x2 H locs ls h hP hD hS (lv_sub hl [0, 1, 3, 4] rfl)
  intro H locs ls h hP hD hS hl
  exact w0 σ a1 a2 a3 H locs ls h hP hD hS (lv_sub hl [0, 1, 2, 3] rfl)

set_option maxHeartbeats 4000000 in
set_option maxRecDepth 100000 in
theorem tX12_pickBest (l : Launch) (dC : Nat → ClassId) (dI : Nat → Nat → Nat) (cy : Nat → ClassId) (ad : Nat → Nat) (σ : S2) (a1 : Int32) (a2 : Int32) (a3 : Int32) (sz : Nat) (r0 : Unit) (σ9 : S2) (h : fX12_pickBest σ a1 a2 a3 = some (r0, σ9)) : Met l yX12_pickBest wsX12_pickBest ({ frames := 2, cells := 0, slots := 0, locals := 45 }) (va_Pc [.ref (ad 0), .int a1, .int a2, .int a3] (wPre (dC, dI) cy (wG (cM cy ad) ad 40 σ) sz)) (va_Qv (fun (_ : Unit) => True) (fun (_ : Unit) t => wAt (dC, dI) (va_A (wG (cM cy ad) ad 40 σ) sz) (wG (cM cy ad) ad 40 σ9) t) (va_A (wG (cM cy ad) ad 40 σ) sz)) 0 0 (va_A (wG (cM cy ad) ad 40 σ) sz) := by
  refine Met.ofW (cc := cX12_pickBest) (maxL := 8) (ret := none) (by decide) rfl ?_
  intro p e s m args below meth c s₁ B hml hv
  obtain ⟨rfl, hsz, hP, hK, hD0, hN⟩ := hv
  have hx := B.exec
  have hb := B.bytes
  have hr := B.returns
  have hts := atoms_spec (ws := wsX12_pickBest) B.pre
  have hown : s.vm.findClass RX12 = some m.cls := findClass_of_methodNamed B.named
  have hlocks := B.notSynchronized
  subst hsz
  have hD := hD0.self (sz := s.heap.size)
  generalize hAe : va_A (wG (cM cy ad) ad 40 σ) s.heap.size = A at hD ⊢
  have hA : ∀ q : Nat, s.heap.size ≤ q → A q := fun q h => by rw [← hAe]; exact Or.inr h
  have hS : va_S A s.heap s.heap [] := va_S.rf
  have hl := lv_entry ([.ref (ad 0), .int a1, .int a2, .int a3]) (n := 8) (Nat.le_of_ble_eq_true rfl)
  rw [lg_entry_eq]
  generalize (lg_sl ([.ref (ad 0), .int a1, .int a2, .int a3]) ++ List.replicate (8 - (lg_sl ([.ref (ad 0), .int a1, .int a2, .int a3])).length) Slot.unset).toArray = ls at hl ⊢
  have hl : lv_has ls 8 [(0, .ref (ad 0)), (1, .int a1), (2, .int a2), (3, .int a3)] := hl
  unfold fX12_pickBest at h
  clear hAe hD0
  suffices HH : ∀ (H : Heap) (locs : List Loc) (ls : Array Slot), fX12_pickBest_0 σ a1 a2 a3 = some (r0, σ9) → va_P (dC, dI) vwCl (wG (cM cy ad) ad 40 σ) H → va_D A (wG (cM cy ad) ad 40 σ) → va_S A s.heap H locs → lv_has ls 8 [(0, .ref (ad 0)), (1, .int a1), (2, .int a2), (3, .int a3)] → W p l e (headSpec wsX12_pickBest ({ frames := 2, cells := 0, slots := 0, locals := 45 })).room s m (#[.ref (ad 0), .int a1, .int a2, .int a3]) below meth c H locs 0 0 (MQ below (va_Qv (fun (_ : Unit) => True) (fun (_ : Unit) t => wAt (dC, dI) A (wG (cM cy ad) ad 40 σ9) t) A) (#[.ref (ad 0), .int a1, .int a2, .int a3]) s 0 0 A) (F0 m 0 ls []) from HH s.heap [] ls h hP hD hS hl
  have w85 : ∀ (k9 : S2 → Int32 → Int32 → Int32 → Int32 → Int32 → Int32 → Option (Unit × S2)) (hk9 : ∀ (σ : S2) (x1 : Int32) (x2 : Int32) (x3 : Int32) (x4 : Int32) (x5 : Int32) (x6 : Int32) (H : Heap) (locs : List Loc) (ls : Array Slot), k9 σ x1 x2 x3 x4 x5 x6 = some (r0, σ9) → va_P (dC, dI) vwCl (wG (cM cy ad) ad 40 σ) H → va_D A (wG (cM cy ad) ad 40 σ) → va_S A s.heap H locs → lv_has ls 8 [(0, .ref (ad 0)), (1, .int x1), (2, .int x2), (3, .int x3), (4, .int x4), (5, .int x5), (6, .int x6)] → W p l e (headSpec wsX12_pickBest ({ frames := 2, cells := 0, slots := 0, locals := 45 })).room s m (#[.ref (ad 0), .int a1, .int a2, .int a3]) below meth c H locs 0 0 (MQ below (va_Qv (fun (_ : Unit) => True) (fun (_ : Unit) t => wAt (dC, dI) A (wG (cM cy ad) ad 40 σ9) t) A) (#[.ref (ad 0), .int a1, .int a2, .int a3]) s 0 0 A) (F0 m 9 ls [])) , ∀ (σ : S2) (x1 : Int32) (x2 : Int32) (x3 : Int32) (x4 : Int32) (x5 : Int32) (x6 : Int32) (H : Heap) (locs : List Loc) (ls : Array Slot), fX12_pickBest_85 k9 σ x1 x2 x3 x4 x5 x6 = some (r0, σ9) → va_P (dC, dI) vwCl (wG (cM cy ad) ad 40 σ) H → va_D A (wG (cM cy ad) ad 40 σ) → va_S A s.heap H locs → lv_has ls 8 [(0, .ref (ad 0)), (1, .int x1), (2, .int x2), (3, .int x3), (4, .int x4), (5, .int x5), (6, .int x6)] → W p l e (headSpec wsX12_pickBest ({ frames := 2, cells := 0, slots := 0, locals := 45 })).room s m (#[.ref (ad 0), .int a1, .int a2, .int a3]) below meth c H locs 0 0 (MQ below (va_Qv (fun (_ : Unit) => True) (fun (_ : Unit) t => wAt (dC, dI) A (wG (cM cy ad) ad 40 σ9) t) A) (#[.ref (ad 0), .int a1, .int a2, .int a3]) s 0 0 A) (F0 m 85 ls []) := by
    intro k9 hk9 σ x1 x2 x3 x4 x5 x6 H locs ls h hP hD hS hl
    unfold fX12_pickBest_85 at h
    obtain ⟨v1, ev1⟩ : ∃ y : Int32, y = x6 + 1 := ⟨_, rfl⟩
    have h := nmS h ev1
    refine lv_iinc (v := v1) (lv' := [(6, .int v1), (0, .ref (ad 0)), (1, .int x1), (2, .int x2), (3, .int x3), (4, .int x4), (5, .int x5)]) hx hb dX12_pickBest_85 hl (k := 6) rfl (by rw [ev1]; rfl) (by decide) rfl (fun ls hl => ?_)
    have hl := lv_sub hl [1, 2, 3, 4, 5, 6, 0] (l' := [(0, .ref (ad 0)), (1, .int x1), (2, .int x2), (3, .int x3), (4, .int x4), (5, .int x5), (6, .int v1)]) rfl
    refine lv_goto (tgt := 9) hx hb dX12_pickBest_88 (by decide) ?_
    exact hk9 σ x1 x2 x3 x4 x5 v1 H locs ls h hP hD hS hl
  have w77 : ∀ (k9 : S2 → Int32 → Int32 → Int32 → Int32 → Int32 → Int32 → Option (Unit × S2)) (hk9 : ∀ (σ : S2) (x1 : Int32) (x2 : Int32) (x3 : Int32) (x4 : Int32) (x5 : Int32) (x6 : Int32) (H : Heap) (locs : List Loc) (ls : Array Slot), k9 σ x1 x2 x3 x4 x5 x6 = some (r0, σ9) → va_P (dC, dI) vwCl (wG (cM cy ad) ad 40 σ) H → va_D A (wG (cM cy ad) ad 40 σ) → va_S A s.heap H locs → lv_has ls 8 [(0, .ref (ad 0)), (1, .int x1), (2, .int x2), (3, .int x3), (4, .int x4), (5, .int x5), (6, .int x6)] → W p l e (headSpec wsX12_pickBest ({ frames := 2, cells := 0, slots := 0, locals := 45 })).room s m (#[.ref (ad 0), .int a1, .int a2, .int a3]) below meth c H locs 0 0 (MQ below (va_Qv (fun (_ : Unit) => True) (fun (_ : Unit) t => wAt (dC, dI) A (wG (cM cy ad) ad 40 σ9) t) A) (#[.ref (ad 0), .int a1, .int a2, .int a3]) s 0 0 A) (F0 m 9 ls [])) , ∀ (σ : S2) (x1 : Int32) (x2 : Int32) (x3 : Int32) (x6 : Int32) (x7 : Int32) (H : Heap) (locs : List Loc) (ls : Array Slot), fX12_pickBest_77 k9 σ x1 x2 x3 x6 x7 = some (r0, σ9) → va_P (dC, dI) vwCl (wG (cM cy ad) ad 40 σ) H → va_D A (wG (cM cy ad) ad 40 σ) → va_S A s.heap H locs → lv_has ls 8 [(0, .ref (ad 0)), (1, .int x1), (2, .int x2), (3, .int x3), (6, .int x6), (7, .int x7)] → W p l e (headSpec wsX12_pickBest ({ frames := 2, cells := 0, slots := 0, locals := 45 })).room s m (#[.ref (ad 0), .int a1, .int a2, .int a3]) below meth c H locs 0 0 (MQ below (va_Qv (fun (_ : Unit) => True) (fun (_ : Unit) t => wAt (dC, dI) A (wG (cM cy ad) ad 40 σ9) t) A) (#[.ref (ad 0), .int a1, .int a2, .int a3]) s 0 0 A) (F0 m 77 ls []) := by
    intro k9 hk9 σ x1 x2 x3 x6 x7 H locs ls h hP hD hS hl
    unfold fX12_pickBest_77 at h
    refine lv_iload hx hb dX12_pickBest_77 (lv_at hl 4 rfl) ?_
    refine lv_istore (lv' := [(4, .int x6), (0, .ref (ad 0)), (1, .int x1), (2, .int x2), (3, .int x3), (6, .int x6), (7, .int x7)]) hx hb dX12_pickBest_79 hl (by decide) rfl (fun ls hl => ?_)
    have hl := lv_sub hl [1, 2, 3, 4, 0, 5, 6] (l' := [(0, .ref (ad 0)), (1, .int x1), (2, .int x2), (3, .int x3), (4, .int x6), (6, .int x6), (7, .int x7)]) rfl
    refine lv_iload hx hb dX12_pickBest_81 (lv_at hl 6 rfl) ?_
    refine lv_istore (lv' := [(5, .int x7), (0, .ref (ad 0)), (1, .int x1), (2, .int x2), (3, .int x3), (4, .int x6), (6, .int x6), (7, .int x7)]) hx hb dX12_pickBest_83 hl (by decide) rfl (fun ls hl => ?_)
    have hl := lv_sub hl [1, 2, 3, 4, 5, 0, 6, 7] (l' := [(0, .ref (ad 0)), (1, .int x1), (2, .int x2), (3, .int x3), (4, .int x6), (5, .int x7), (6, .int x6), (7, .int x7)]) rfl
    exact w85 _ hk9 σ x1 x2 x3 x6 x7 x6 H locs ls h hP hD hS (lv_sub hl [0, 1, 2, 3, 4, 5, 6] rfl)
  have w9 : ∀ (n : Nat), ∀ (σ : S2) (x1 : Int32) (x2 : Int32) (x3 : Int32) (x4 : Int32) (x5 : Int32) (x6 : Int32) (H : Heap) (locs : List Loc) (ls : Array Slot), fX12_pickBest_9 n σ x1 x2 x3 x4 x5 x6 = some (r0, σ9) → va_P (dC, dI) vwCl (wG (cM cy ad) ad 40 σ) H → va_D A (wG (cM cy ad) ad 40 σ) → va_S A s.heap H locs → lv_has ls 8 [(0, .ref (ad 0)), (1, .int x1), (2, .int x2), (3, .int x3), (4, .int x4), (5, .int x5), (6, .int x6)] → W p l e (headSpec wsX12_pickBest ({ frames := 2, cells := 0, slots := 0, locals := 45 })).room s m (#[.ref (ad 0), .int a1, .int a2, .int a3]) below meth c H locs 0 0 (MQ below (va_Qv (fun (_ : Unit) => True) (fun (_ : Unit) t => wAt (dC, dI) A (wG (cM cy ad) ad 40 σ9) t) A) (#[.ref (ad 0), .int a1, .int a2, .int a3]) s 0 0 A) (F0 m 9 ls []) := by
    intro n
    induction n with
    | zero => intro σ x1 x2 x3 x4 x5 x6 H locs ls h; cases h
    | succ n ih =>
    intro σ x1 x2 x3 x4 x5 x6 H locs ls h hP hD hS hl
    unfold fX12_pickBest_9 at h
    refine lv_iload hx hb dX12_pickBest_9 (lv_at hl 6 rfl) ?_
    refine lv_aload_n hx hb dX12_pickBest_11 rfl (lv_at hl 0 rfl) ?_
    refine ux_get (D := (dC, dI)) (ci := 12) (v := .int (σ.1 0 3)) (C := RX12) (T := TX12) (M := 59) (fs := (oM ad (σ.1 0))) hx hb hts (fun _ h9 => List.mem_cons_of_mem _ (List.mem_append_right _ h9)) hown hK hP 0 (Nat.le_of_ble_eq_true rfl) rfl rfl 3 (by decide) (hts (.fieldLink RX12 140 "SeatsRoundModel" "keepers" "I") (List.mem_of_getElem? (i := 1) rfl)) (fun _ h9 => h9) rfl dX12_pickBest_12 ?_
    refine lv_icmp_ge (tgt := 91) hx hb dX12_pickBest_15 (by decide) (fun hcd => ?_) (fun hcd => ?_)
    · have h := cdP hcd h
      refine lv_aload_n hx hb dX12_pickBest_91 rfl (lv_at hl 0 rfl) ?_
      refine ux_get (D := (dC, dI)) (ci := 12) (v := .ref (ad 35)) (C := RX12) (T := TX12) (M := 59) (fs := (oM ad (σ.1 0))) hx hb hts (fun _ h9 => List.mem_cons_of_mem _ (List.mem_append_right _ h9)) hown hK hP 0 (Nat.le_of_ble_eq_true rfl) rfl rfl 52 (by decide) (hts (.fieldLink RX12 118 "SeatsRoundModel" "picked" "[I") (List.mem_of_getElem? (i := 4) rfl)) (fun _ h9 => h9) rfl dX12_pickBest_92 ?_
      refine lv_aload_n hx hb dX12_pickBest_95 rfl (lv_at hl 0 rfl) ?_
      refine ux_get (D := (dC, dI)) (ci := 12) (v := .int (σ.1 0 53)) (C := RX12) (T := TX12) (M := 59) (fs := (oM ad (σ.1 0))) hx hb hts (fun _ h9 => List.mem_cons_of_mem _ (List.mem_append_right _ h9)) hown hK hP 0 (Nat.le_of_ble_eq_true rfl) rfl rfl 53 (by decide) (hts (.fieldLink RX12 240 "SeatsRoundModel" "pickedMany" "I") (List.mem_of_getElem? (i := 5) rfl)) (fun _ h9 => h9) rfl dX12_pickBest_96 ?_
      refine lv_iload hx hb dX12_pickBest_99 (lv_at hl 4 rfl) ?_
      refine ux_iast hx hb hK hP hD hS 35 0 (Nat.le_of_ble_eq_true rfl) (fun _ => (cM_35 _ _ _ _)) rfl h dX12_pickBest_101 (fun σ2 H locs h hP hD hS => ?_)
      refine lv_aload_n hx hb dX12_pickBest_102 rfl (lv_at hl 0 rfl) ?_
      refine lv_dup hx hb dX12_pickBest_103 rfl ?_
      refine ux_get (D := (dC, dI)) (ci := 12) (v := .int (σ2.1 0 53)) (C := RX12) (T := TX12) (M := 59) (fs := (oM ad (σ2.1 0))) hx hb hts (fun _ h9 => List.mem_cons_of_mem _ (List.mem_append_right _ h9)) hown hK hP 0 (Nat.le_of_ble_eq_true rfl) rfl rfl 53 (by decide) (hts (.fieldLink RX12 240 "SeatsRoundModel" "pickedMany" "I") (List.mem_of_getElem? (i := 5) rfl)) (fun _ h9 => h9) rfl dX12_pickBest_104 ?_
      refine lv_iconst (v := 1) hx hb dX12_pickBest_107 (by decide) ?_
      refine lv_iadd hx hb dX12_pickBest_108 ?_
      refine ux_put (D := (dC, dI)) (ci := 12) (C := RX12) (T := TX12) (M := 59) (fs := (oM ad (σ2.1 0))) hx hb hts (fun _ h9 => List.mem_cons_of_mem _ (List.mem_append_right _ h9)) tyX12 tyX12_ok nmX12 hown hK hP hD hS 0 (Nat.le_of_ble_eq_true rfl) rfl rfl 53 (by decide) (hts (.fieldLink RX12 240 "SeatsRoundModel" "pickedMany" "I") (List.mem_of_getElem? (i := 5) rfl)) (fun _ h9 => h9) rfl (tyX12_ok 53 (by decide)) rfl rfl (Nat.le_of_ble_eq_true rfl) (oM_set_53 _ _ _ _ _) h dX12_pickBest_109 (fun σ3 H locs h hP hD hS => ?_)
      exact ux_vret hx hb hr h hP hD hS hlocks dX12_pickBest_112
    · have h := cdN hcd h
      refine lv_iload_n hx hb dX12_pickBest_18 rfl (lv_at hl 2 rfl) ?_
      refine lv_iload hx hb dX12_pickBest_19 (lv_at hl 6 rfl) ?_
      refine lv_aload_n hx hb dX12_pickBest_21 rfl (lv_at hl 0 rfl) ?_
      refine ux_get (D := (dC, dI)) (ci := 12) (v := .ref (ad 9)) (C := RX12) (T := TX12) (M := 59) (fs := (oM ad (σ.1 0))) hx hb hts (fun _ h9 => List.mem_cons_of_mem _ (List.mem_append_right _ h9)) hown hK hP 0 (Nat.le_of_ble_eq_true rfl) rfl rfl 11 (by decide) (hts (.fieldLink RX12 35 "SeatsRoundModel" "tableZ" "[I") (List.mem_of_getElem? (i := 2) rfl)) (fun _ h9 => h9) rfl dX12_pickBest_22 ?_
      refine lv_iload_n hx hb dX12_pickBest_25 rfl (lv_at hl 1 rfl) ?_
      refine ux_iald hx hb hK hP 9 0 (Nat.le_of_ble_eq_true rfl) (cM_9 _ _ _ _) rfl h dX12_pickBest_26 (fun v4 h => ?_)
      obtain ⟨r5, hf6, h⟩ := biS h
      refine ux_calli (va_runS (As := [.int x2, .int x6, .int v4]) (rest := []) ⟨hx, hb, hml, hown, hts⟩ (tX12_mixed l dC dI cy ad σ x2 x6 v4 H.size r5 hf6) (va_cwS 3 hts gX12_pickBest_X12_mixed rfl rfl rfl (by decide +kernel) ⟨Nat.le_of_ble_eq_true rfl, Nat.le_of_ble_eq_true rfl⟩) (wp_S hK hN hP hD) rfl rfl hl.1 rfl (lv_room (Nat.le_of_ble_eq_true rfl)) dX12_pickBest_27 ⟨Nat.le_of_ble_eq_true rfl, Nat.le_of_ble_eq_true rfl⟩) hD hS hA (fun H locs hP hD hS => ?_)
      refine lv_aload_n hx hb dX12_pickBest_30 rfl (lv_at hl 0 rfl) ?_
      refine ux_get (D := (dC, dI)) (ci := 12) (v := .ref (ad 15)) (C := RX12) (T := TX12) (M := 59) (fs := (oM ad (σ.1 0))) hx hb hts (fun _ h9 => List.mem_cons_of_mem _ (List.mem_append_right _ h9)) hown hK hP 0 (Nat.le_of_ble_eq_true rfl) rfl rfl 17 (by decide) (hts (.fieldLink RX12 53 "SeatsRoundModel" "counts" "[I") (List.mem_of_getElem? (i := 3) rfl)) (fun _ h9 => h9) rfl dX12_pickBest_31 ?_
      refine lv_bipush (v := 12) hx hb dX12_pickBest_34 (by decide) ?_
      refine lv_iload_n hx hb dX12_pickBest_36 rfl (lv_at hl 1 rfl) ?_
      refine lv_imul hx hb dX12_pickBest_37 ?_
      refine lv_iload hx hb dX12_pickBest_38 (lv_at hl 6 rfl) ?_
      refine lv_iadd hx hb dX12_pickBest_40 ?_
      refine ux_iald hx hb hK hP 15 0 (Nat.le_of_ble_eq_true rfl) (cM_15 _ _ _ _) rfl h dX12_pickBest_41 (fun v7 h => ?_)
      change W _ _ _ _ _ _ _ _ _ _ _ _ _ _ _ (F0 m 42 ls [.int v7, .int r5])
      refine lv_imul hx hb dX12_pickBest_42 ?_
      refine lv_topi (fun v8 ev8 => ?_)
      have h := nmS h ev8
      refine lv_istore (lv' := [(7, .int v8), (0, .ref (ad 0)), (1, .int x1), (2, .int x2), (3, .int x3), (4, .int x4), (5, .int x5), (6, .int x6)]) hx hb dX12_pickBest_43 hl (by decide) rfl (fun ls hl => ?_)
      have hl := lv_sub hl [1, 2, 3, 4, 5, 6, 7, 0] (l' := [(0, .ref (ad 0)), (1, .int x1), (2, .int x2), (3, .int x3), (4, .int x4), (5, .int x5), (6, .int x6), (7, .int v8)]) rfl
      refine lv_aload_n hx hb dX12_pickBest_45 rfl (lv_at hl 0 rfl) ?_
      refine lv_iload_n hx hb dX12_pickBest_46 rfl (lv_at hl 1 rfl) ?_
      refine lv_iload hx hb dX12_pickBest_47 (lv_at hl 6 rfl) ?_
      obtain ⟨r9, hf10, h⟩ := biS h
      refine ux_calli (va_runV (As := [.int x1, .int x6]) (rest := []) ⟨hx, hb, hml, hown, hts⟩ (tX12_isIn l dC dI cy ad σ x1 x6 H.size r9 hf10) (cwV 2 hts gX12_pickBest_X12_isIn rfl rfl rfl (by decide +kernel) ⟨Nat.le_of_ble_eq_true rfl, Nat.le_of_ble_eq_true rfl⟩) (wp_V hK hN hP hD (va_recv hK hP (ci := 12) (q0 := 0) rfl (wG_of (Nat.le_of_ble_eq_true rfl) rfl))) rfl rfl hl.1 rfl (lv_room (Nat.le_of_ble_eq_true rfl)) dX12_pickBest_49 ⟨Nat.le_of_ble_eq_true rfl, Nat.le_of_ble_eq_true rfl⟩) hD hS hA (fun H locs hP hD hS => ?_)
      refine lv_if_eq (tgt := 85) hx hb dX12_pickBest_52 (by decide) (fun hcd => ?_) (fun hcd => ?_)
      · have h := cdP hcd h
        exact w85 _ ih σ x1 x2 x3 x4 x5 x6 H locs ls h hP hD hS (lv_sub hl [0, 1, 2, 3, 4, 5, 6] rfl)
      · have h := cdN hcd h
        refine lv_iload_n hx hb dX12_pickBest_55 rfl (lv_at hl 3 rfl) ?_
        refine lv_iload hx hb dX12_pickBest_56 (lv_at hl 6 rfl) ?_
        refine lv_ishr hx hb dX12_pickBest_58 ?_
        refine lv_iconst (v := 1) hx hb dX12_pickBest_59 (by decide) ?_
        refine lv_iand hx hb dX12_pickBest_60 ?_
        refine lv_if_ne (tgt := 85) hx hb dX12_pickBest_61 (by decide) (fun hcd => ?_) (fun hcd => ?_)
        · have h := cdN hcd h
          exact w85 _ ih σ x1 x2 x3 x4 x5 x6 H locs ls h hP hD hS (lv_sub hl [0, 1, 2, 3, 4, 5, 6] rfl)
        · have h := cdP hcd h
          refine lv_iload hx hb dX12_pickBest_64 (lv_at hl 4 rfl) ?_
          refine lv_iconst (v := (-1)) hx hb dX12_pickBest_66 (by decide) ?_
          refine lv_icmp_eq (tgt := 77) hx hb dX12_pickBest_67 (by decide) (fun hcd => ?_) (fun hcd => ?_)
          · have h := cdP hcd h
            exact w77 _ ih σ x1 x2 x3 x6 v8 H locs ls h hP hD hS (lv_sub hl [0, 1, 2, 3, 6, 7] rfl)
          · have h := cdN hcd h
            refine lv_iload hx hb dX12_pickBest_70 (lv_at hl 7 rfl) ?_
            refine lv_iload hx hb dX12_pickBest_72 (lv_at hl 5 rfl) ?_
            refine lv_icmp_le (tgt := 85) hx hb dX12_pickBest_74 (by decide) (fun hcd => ?_) (fun hcd => ?_)
            · have h := cdP hcd h
              exact w85 _ ih σ x1 x2 x3 x4 x5 x6 H locs ls h hP hD hS (lv_sub hl [0, 1, 2, 3, 4, 5, 6] rfl)
            · have h := cdN hcd h
              exact w77 _ ih σ x1 x2 x3 x6 v8 H locs ls h hP hD hS (lv_sub hl [0, 1, 2, 3, 6, 7] rfl)
  have w0 : ∀ (σ : S2) (x1 : Int32) (x2 : Int32) (x3 : Int32) (H : Heap) (locs : List Loc) (ls : Array Slot), fX12_pickBest_0 σ x1 x2 x3 = some (r0, σ9) → va_P (dC, dI) vwCl (wG (cM cy ad) ad 40 σ) H → va_D A (wG (cM cy ad) ad 40 σ) → va_S A s.heap H locs → lv_has ls 8 [(0, .ref (ad 0)), (1, .int x1), (2, .int x2), (3, .int x3)] → W p l e (headSpec wsX12_pickBest ({ frames := 2, cells := 0, slots := 0, locals := 45 })).room s m (#[.ref (ad 0), .int a1, .int a2, .int a3]) below meth c H locs 0 0 (MQ below (va_Qv (fun (_ : Unit) => True) (fun (_ : Unit) t => wAt (dC, dI) A (wG (cM cy ad) ad 40 σ9) t) A) (#[.ref (ad 0), .int a1, .int a2, .int a3]) s 0 0 A) (F0 m 0 ls []) := by
    intro σ x1 x2 x3 H locs ls h hP hD hS hl
    unfold fX12_pickBest_0 at h
    refine lv_iconst (v := (-1)) hx hb dX12_pickBest_0 (by decide) ?_
    refine lv_istore (lv' := [(4, .int (-1)), (0, .ref (ad 0)), (1, .int x1), (2, .int x2), (3, .int x3)]) hx hb dX12_pickBest_1 hl (by decide) rfl (fun ls hl => ?_)
    have hl := lv_sub hl [1, 2, 3, 4, 0] (l' := [(0, .ref (ad 0)), (1, .int x1), (2, .int x2), (3, .int x3), (4, .int (-1))]) rfl
    refine lv_iconst (v := 0) hx hb dX12_pickBest_3 (by decide) ?_
    refine lv_istore (lv' := [(5, .int 0), (0, .ref (ad 0)), (1, .int x1), (2, .int x2), (3, .int x3), (4, .int (-1))]) hx hb dX12_pickBest_4 hl (by decide) rfl (fun ls hl => ?_)
    have hl := lv_sub hl [1, 2, 3, 4, 5, 0] (l' := [(0, .ref (ad 0)), (1, .int x1), (2, .int x2), (3, .int x3), (4, .int (-1)), (5, .int 0)]) rfl
    refine lv_iconst (v := 0) hx hb dX12_pickBest_6 (by decide) ?_
    refine lv_istore (lv' := [(6, .int 0), (0, .ref (ad 0)), (1, .int x1), (2, .int x2), (3, .int x3), (4, .int (-1)), (5, .int 0)]) hx hb dX12_pickBest_7 hl (by decide) rfl (fun ls hl => ?_)
    have hl := lv_sub hl [1, 2, 3, 4, 5, 6, 0] (l' := [(0, .ref (ad 0)), (1, .int x1), (2, .int x2), (3, .int x3), (4, .int (-1)), (5, .int 0), (6, .int 0)]) rfl
    exact w9 FU σ x1 x2 x3 (-1) 0 0 H locs ls h hP hD hS hl
  intro H locs ls h hP hD hS hl
  exact w0 σ a1 a2 a3 H locs ls h hP hD hS (lv_sub hl [0, 1, 2, 3] rfl)

set_option maxHeartbeats 4000000 in
set_option maxRecDepth 100000 in
theorem tX12_pick (l : Launch) (dC : Nat → ClassId) (dI : Nat → Nat → Nat) (cy : Nat → ClassId) (ad : Nat → Nat) (σ : S2) (a1 : Int32) (a2 : Int32) (sz : Nat) (r0 : Unit) (σ9 : S2) (h : fX12_pick σ a1 a2 = some (r0, σ9)) : Met l yX12_pick wsX12_pick ({ frames := 3, cells := 0, slots := 0, locals := 72 }) (va_Pc [.ref (ad 0), .int a1, .int a2] (wPre (dC, dI) cy (wG (cM cy ad) ad 40 σ) sz)) (va_Qv (fun (_ : Unit) => True) (fun (_ : Unit) t => wAt (dC, dI) (va_A (wG (cM cy ad) ad 40 σ) sz) (wG (cM cy ad) ad 40 σ9) t) (va_A (wG (cM cy ad) ad 40 σ) sz)) 0 0 (va_A (wG (cM cy ad) ad 40 σ) sz) := by
  refine Met.ofW (cc := cX12_pick) (maxL := 5) (ret := none) (by decide) rfl ?_
  intro p e s m args below meth c s₁ B hml hv
  obtain ⟨rfl, hsz, hP, hK, hD0, hN⟩ := hv
  have hx := B.exec
  have hb := B.bytes
  have hr := B.returns
  have hts := atoms_spec (ws := wsX12_pick) B.pre
  have hown : s.vm.findClass RX12 = some m.cls := findClass_of_methodNamed B.named
  have hlocks := B.notSynchronized
  subst hsz
  have hD := hD0.self (sz := s.heap.size)
  generalize hAe : va_A (wG (cM cy ad) ad 40 σ) s.heap.size = A at hD ⊢
  have hA : ∀ q : Nat, s.heap.size ≤ q → A q := fun q h => by rw [← hAe]; exact Or.inr h
  have hS : va_S A s.heap s.heap [] := va_S.rf
  have hl := lv_entry ([.ref (ad 0), .int a1, .int a2]) (n := 5) (Nat.le_of_ble_eq_true rfl)
  rw [lg_entry_eq]
  generalize (lg_sl ([.ref (ad 0), .int a1, .int a2]) ++ List.replicate (5 - (lg_sl ([.ref (ad 0), .int a1, .int a2])).length) Slot.unset).toArray = ls at hl ⊢
  have hl : lv_has ls 5 [(0, .ref (ad 0)), (1, .int a1), (2, .int a2)] := hl
  unfold fX12_pick at h
  clear hAe hD0
  suffices HH : ∀ (H : Heap) (locs : List Loc) (ls : Array Slot), fX12_pick_0 σ a1 a2 = some (r0, σ9) → va_P (dC, dI) vwCl (wG (cM cy ad) ad 40 σ) H → va_D A (wG (cM cy ad) ad 40 σ) → va_S A s.heap H locs → lv_has ls 5 [(0, .ref (ad 0)), (1, .int a1), (2, .int a2)] → W p l e (headSpec wsX12_pick ({ frames := 3, cells := 0, slots := 0, locals := 72 })).room s m (#[.ref (ad 0), .int a1, .int a2]) below meth c H locs 0 0 (MQ below (va_Qv (fun (_ : Unit) => True) (fun (_ : Unit) t => wAt (dC, dI) A (wG (cM cy ad) ad 40 σ9) t) A) (#[.ref (ad 0), .int a1, .int a2]) s 0 0 A) (F0 m 0 ls []) from HH s.heap [] ls h hP hD hS hl
  have w75 : ∀ (k10 : S2 → Int32 → Int32 → Int32 → Int32 → Option (Unit × S2)) (hk10 : ∀ (σ : S2) (x1 : Int32) (x2 : Int32) (x3 : Int32) (x4 : Int32) (H : Heap) (locs : List Loc) (ls : Array Slot), k10 σ x1 x2 x3 x4 = some (r0, σ9) → va_P (dC, dI) vwCl (wG (cM cy ad) ad 40 σ) H → va_D A (wG (cM cy ad) ad 40 σ) → va_S A s.heap H locs → lv_has ls 5 [(0, .ref (ad 0)), (1, .int x1), (2, .int x2), (3, .int x3), (4, .int x4)] → W p l e (headSpec wsX12_pick ({ frames := 3, cells := 0, slots := 0, locals := 72 })).room s m (#[.ref (ad 0), .int a1, .int a2]) below meth c H locs 0 0 (MQ below (va_Qv (fun (_ : Unit) => True) (fun (_ : Unit) t => wAt (dC, dI) A (wG (cM cy ad) ad 40 σ9) t) A) (#[.ref (ad 0), .int a1, .int a2]) s 0 0 A) (F0 m 10 ls [])) , ∀ (σ : S2) (x1 : Int32) (x2 : Int32) (x3 : Int32) (x4 : Int32) (H : Heap) (locs : List Loc) (ls : Array Slot), fX12_pick_75 k10 σ x1 x2 x3 x4 = some (r0, σ9) → va_P (dC, dI) vwCl (wG (cM cy ad) ad 40 σ) H → va_D A (wG (cM cy ad) ad 40 σ) → va_S A s.heap H locs → lv_has ls 5 [(0, .ref (ad 0)), (1, .int x1), (2, .int x2), (3, .int x3), (4, .int x4)] → W p l e (headSpec wsX12_pick ({ frames := 3, cells := 0, slots := 0, locals := 72 })).room s m (#[.ref (ad 0), .int a1, .int a2]) below meth c H locs 0 0 (MQ below (va_Qv (fun (_ : Unit) => True) (fun (_ : Unit) t => wAt (dC, dI) A (wG (cM cy ad) ad 40 σ9) t) A) (#[.ref (ad 0), .int a1, .int a2]) s 0 0 A) (F0 m 75 ls []) := by
    intro k10 hk10 σ x1 x2 x3 x4 H locs ls h hP hD hS hl
    unfold fX12_pick_75 at h
    refine lv_iload_n hx hb dX12_pick_75 rfl (lv_at hl 3 rfl) ?_
    refine lv_iconst (v := 1) hx hb dX12_pick_76 (by decide) ?_
    refine lv_aload_n hx hb dX12_pick_77 rfl (lv_at hl 0 rfl) ?_
    refine ux_get (D := (dC, dI)) (ci := 12) (v := .ref (ad 35)) (C := RX12) (T := TX12) (M := 59) (fs := (oM ad (σ.1 0))) hx hb hts (fun _ h9 => List.mem_cons_of_mem _ (List.mem_append_right _ h9)) hown hK hP 0 (Nat.le_of_ble_eq_true rfl) rfl rfl 52 (by decide) (hts (.fieldLink RX12 118 "SeatsRoundModel" "picked" "[I") (List.mem_of_getElem? (i := 4) rfl)) (fun _ h9 => h9) rfl dX12_pick_78 ?_
    refine lv_aload_n hx hb dX12_pick_81 rfl (lv_at hl 0 rfl) ?_
    refine ux_get (D := (dC, dI)) (ci := 12) (v := .int (σ.1 0 53)) (C := RX12) (T := TX12) (M := 59) (fs := (oM ad (σ.1 0))) hx hb hts (fun _ h9 => List.mem_cons_of_mem _ (List.mem_append_right _ h9)) hown hK hP 0 (Nat.le_of_ble_eq_true rfl) rfl rfl 53 (by decide) (hts (.fieldLink RX12 240 "SeatsRoundModel" "pickedMany" "I") (List.mem_of_getElem? (i := 1) rfl)) (fun _ h9 => h9) rfl dX12_pick_82 ?_
    refine lv_iconst (v := 1) hx hb dX12_pick_85 (by decide) ?_
    refine lv_isub hx hb dX12_pick_86 ?_
    change W _ _ _ _ _ _ _ _ _ _ _ _ _ _ _ (F0 m 87 ls [.int ((σ.1 0 53) - 1), .ref (ad 35), .int 1, .int x3])
    refine ux_iald hx hb hK hP 35 0 (Nat.le_of_ble_eq_true rfl) (cM_35 _ _ _ _) rfl h dX12_pick_87 (fun v1 h => ?_)
    refine lv_ishl hx hb dX12_pick_88 ?_
    refine lv_ior hx hb dX12_pick_89 ?_
    refine lv_topi (fun v2 ev2 => ?_)
    have h := nmS h ev2
    refine lv_istore_n (lv' := [(3, .int v2), (0, .ref (ad 0)), (1, .int x1), (2, .int x2), (4, .int x4)]) hx hb dX12_pick_90 rfl hl (by decide) rfl (fun ls hl => ?_)
    have hl := lv_sub hl [1, 2, 3, 0, 4] (l' := [(0, .ref (ad 0)), (1, .int x1), (2, .int x2), (3, .int v2), (4, .int x4)]) rfl
    refine lv_goto (tgt := 10) hx hb dX12_pick_91 (by decide) ?_
    exact hk10 σ x1 x2 v2 x4 H locs ls h hP hD hS hl
  have w73 : ∀ (k10 : S2 → Int32 → Int32 → Int32 → Int32 → Option (Unit × S2)) (hk10 : ∀ (σ : S2) (x1 : Int32) (x2 : Int32) (x3 : Int32) (x4 : Int32) (H : Heap) (locs : List Loc) (ls : Array Slot), k10 σ x1 x2 x3 x4 = some (r0, σ9) → va_P (dC, dI) vwCl (wG (cM cy ad) ad 40 σ) H → va_D A (wG (cM cy ad) ad 40 σ) → va_S A s.heap H locs → lv_has ls 5 [(0, .ref (ad 0)), (1, .int x1), (2, .int x2), (3, .int x3), (4, .int x4)] → W p l e (headSpec wsX12_pick ({ frames := 3, cells := 0, slots := 0, locals := 72 })).room s m (#[.ref (ad 0), .int a1, .int a2]) below meth c H locs 0 0 (MQ below (va_Qv (fun (_ : Unit) => True) (fun (_ : Unit) t => wAt (dC, dI) A (wG (cM cy ad) ad 40 σ9) t) A) (#[.ref (ad 0), .int a1, .int a2]) s 0 0 A) (F0 m 10 ls [])) , ∀ (σ : S2) (x1 : Int32) (x2 : Int32) (x3 : Int32) (s0 : Int32) (H : Heap) (locs : List Loc) (ls : Array Slot), fX12_pick_73 k10 σ x1 x2 x3 s0 = some (r0, σ9) → va_P (dC, dI) vwCl (wG (cM cy ad) ad 40 σ) H → va_D A (wG (cM cy ad) ad 40 σ) → va_S A s.heap H locs → lv_has ls 5 [(0, .ref (ad 0)), (1, .int x1), (2, .int x2), (3, .int x3)] → W p l e (headSpec wsX12_pick ({ frames := 3, cells := 0, slots := 0, locals := 72 })).room s m (#[.ref (ad 0), .int a1, .int a2]) below meth c H locs 0 0 (MQ below (va_Qv (fun (_ : Unit) => True) (fun (_ : Unit) t => wAt (dC, dI) A (wG (cM cy ad) ad 40 σ9) t) A) (#[.ref (ad 0), .int a1, .int a2]) s 0 0 A) (F0 m 73 ls [.int s0]) := by
    intro k10 hk10 σ x1 x2 x3 s0 H locs ls h hP hD hS hl
    unfold fX12_pick_73 at h
    refine lv_istore (lv' := [(4, .int s0), (0, .ref (ad 0)), (1, .int x1), (2, .int x2), (3, .int x3)]) hx hb dX12_pick_73 hl (by decide) rfl (fun ls hl => ?_)
    have hl := lv_sub hl [1, 2, 3, 4, 0] (l' := [(0, .ref (ad 0)), (1, .int x1), (2, .int x2), (3, .int x3), (4, .int s0)]) rfl
    exact w75 _ hk10 σ x1 x2 x3 s0 H locs ls h hP hD hS hl
  have w10 : ∀ (n : Nat), ∀ (σ : S2) (x1 : Int32) (x2 : Int32) (x3 : Int32) (x4 : Int32) (H : Heap) (locs : List Loc) (ls : Array Slot), fX12_pick_10 n σ x1 x2 x3 x4 = some (r0, σ9) → va_P (dC, dI) vwCl (wG (cM cy ad) ad 40 σ) H → va_D A (wG (cM cy ad) ad 40 σ) → va_S A s.heap H locs → lv_has ls 5 [(0, .ref (ad 0)), (1, .int x1), (2, .int x2), (3, .int x3), (4, .int x4)] → W p l e (headSpec wsX12_pick ({ frames := 3, cells := 0, slots := 0, locals := 72 })).room s m (#[.ref (ad 0), .int a1, .int a2]) below meth c H locs 0 0 (MQ below (va_Qv (fun (_ : Unit) => True) (fun (_ : Unit) t => wAt (dC, dI) A (wG (cM cy ad) ad 40 σ9) t) A) (#[.ref (ad 0), .int a1, .int a2]) s 0 0 A) (F0 m 10 ls []) := by
    intro n
    induction n with
    | zero => intro σ x1 x2 x3 x4 H locs ls h; cases h
    | succ n ih =>
    intro σ x1 x2 x3 x4 H locs ls h hP hD hS hl
    unfold fX12_pick_10 at h
    refine lv_iload_n hx hb dX12_pick_10 rfl (lv_at hl 3 rfl) ?_
    refine lv_aload_n hx hb dX12_pick_11 rfl (lv_at hl 0 rfl) ?_
    refine ux_get (D := (dC, dI)) (ci := 12) (v := .ref (ad 8)) (C := RX12) (T := TX12) (M := 59) (fs := (oM ad (σ.1 0))) hx hb hts (fun _ h9 => List.mem_cons_of_mem _ (List.mem_append_right _ h9)) hown hK hP 0 (Nat.le_of_ble_eq_true rfl) rfl rfl 10 (by decide) (hts (.fieldLink RX12 32 "SeatsRoundModel" "tableOf" "[I") (List.mem_of_getElem? (i := 2) rfl)) (fun _ h9 => h9) rfl dX12_pick_12 ?_
    refine lv_iload_n hx hb dX12_pick_15 rfl (lv_at hl 1 rfl) ?_
    refine ux_iald hx hb hK hP 8 0 (Nat.le_of_ble_eq_true rfl) (cM_8 _ _ _ _) rfl h dX12_pick_16 (fun v3 h => ?_)
    refine lv_icmp_eq (tgt := 94) hx hb dX12_pick_17 (by decide) (fun hcd => ?_) (fun hcd => ?_)
    · have h := cdP hcd h
      exact ux_vret hx hb hr h hP hD hS hlocks dX12_pick_94
    · have h := cdN hcd h
      refine lv_aload_n hx hb dX12_pick_20 rfl (lv_at hl 0 rfl) ?_
      refine ux_get (D := (dC, dI)) (ci := 12) (v := .ref (ad 12)) (C := RX12) (T := TX12) (M := 59) (fs := (oM ad (σ.1 0))) hx hb hts (fun _ h9 => List.mem_cons_of_mem _ (List.mem_append_right _ h9)) hown hK hP 0 (Nat.le_of_ble_eq_true rfl) rfl rfl 14 (by decide) (hts (.fieldLink RX12 44 "SeatsRoundModel" "picks" "[I") (List.mem_of_getElem? (i := 3) rfl)) (fun _ h9 => h9) rfl dX12_pick_21 ?_
      refine lv_iload_n hx hb dX12_pick_24 rfl (lv_at hl 1 rfl) ?_
      refine ux_iald hx hb hK hP 12 0 (Nat.le_of_ble_eq_true rfl) (cM_12 _ _ _ _) rfl h dX12_pick_25 (fun v4 h => ?_)
      refine lv_iconst (v := 1) hx hb dX12_pick_26 (by decide) ?_
      refine lv_icmp_ne (tgt := 40) hx hb dX12_pick_27 (by decide) (fun hcd => ?_) (fun hcd => ?_)
      · have h := cdN hcd h
        refine lv_aload_n hx hb dX12_pick_40 rfl (lv_at hl 0 rfl) ?_
        refine lv_iload_n hx hb dX12_pick_41 rfl (lv_at hl 1 rfl) ?_
        refine lv_iload hx hb dX12_pick_42 (lv_at hl 4 rfl) ?_
        refine lv_iload_n hx hb dX12_pick_44 rfl (lv_at hl 3 rfl) ?_
        obtain ⟨r5, σ6, hf7, h⟩ := bsS h
        refine ux_callv (va_runV (As := [.int x1, .int x4, .int x3]) (rest := []) ⟨hx, hb, hml, hown, hts⟩ (tX12_pickNext l dC dI cy ad σ x1 x4 x3 H.size r5 σ6 hf7) (cwV 3 hts gX12_pick_X12_pickNext rfl rfl rfl (by decide +kernel) ⟨Nat.le_of_ble_eq_true rfl, Nat.le_of_ble_eq_true rfl⟩) (wp_V hK hN hP hD (va_recv hK hP (ci := 12) (q0 := 0) rfl (wG_of (Nat.le_of_ble_eq_true rfl) rfl))) rfl rfl hl.1 rfl (lv_room (Nat.le_of_ble_eq_true rfl)) dX12_pick_45 ⟨Nat.le_of_ble_eq_true rfl, Nat.le_of_ble_eq_true rfl⟩) hD hS hA (fun H locs hP hD hS => ?_)
        refine lv_aload_n hx hb dX12_pick_48 rfl (lv_at hl 0 rfl) ?_
        refine ux_get (D := (dC, dI)) (ci := 12) (v := .ref (ad 12)) (C := RX12) (T := TX12) (M := 59) (fs := (oM ad (σ6.1 0))) hx hb hts (fun _ h9 => List.mem_cons_of_mem _ (List.mem_append_right _ h9)) hown hK hP 0 (Nat.le_of_ble_eq_true rfl) rfl rfl 14 (by decide) (hts (.fieldLink RX12 44 "SeatsRoundModel" "picks" "[I") (List.mem_of_getElem? (i := 3) rfl)) (fun _ h9 => h9) rfl dX12_pick_49 ?_
        refine lv_iload_n hx hb dX12_pick_52 rfl (lv_at hl 1 rfl) ?_
        refine ux_iald hx hb hK hP 12 0 (Nat.le_of_ble_eq_true rfl) (cM_12 _ _ _ _) rfl h dX12_pick_53 (fun v8 h => ?_)
        refine lv_iconst (v := 2) hx hb dX12_pick_54 (by decide) ?_
        refine lv_icmp_ne (tgt := 71) hx hb dX12_pick_55 (by decide) (fun hcd => ?_) (fun hcd => ?_)
        · have h := cdN hcd h
          refine lv_iload hx hb dX12_pick_71 (lv_at hl 4 rfl) ?_
          exact w73 _ ih σ6 x1 x2 x3 x4 H locs ls h hP hD hS (lv_sub hl [0, 1, 2, 3] rfl)
        · have h := cdP hcd h
          refine lv_iload hx hb dX12_pick_58 (lv_at hl 4 rfl) ?_
          refine lv_sipush (v := 333) hx hb dX12_pick_60 (by decide) ?_
          refine lv_iadd hx hb dX12_pick_63 ?_
          refine lv_sipush (v := 1000) hx hb dX12_pick_64 (by decide) ?_
          obtain ⟨hz9, h⟩ := dzS h
          refine lv_irem hx hb dX12_pick_67 hz9 ?_
          refine lv_goto (tgt := 73) hx hb dX12_pick_68 (by decide) ?_
          exact w73 _ ih σ6 x1 x2 x3 ((x4 + 333) - (x4 + 333) / 1000 * 1000) H locs ls h hP hD hS (lv_sub hl [0, 1, 2, 3] rfl)
      · have h := cdP hcd h
        refine lv_aload_n hx hb dX12_pick_30 rfl (lv_at hl 0 rfl) ?_
        refine lv_iload_n hx hb dX12_pick_31 rfl (lv_at hl 1 rfl) ?_
        refine lv_iload_n hx hb dX12_pick_32 rfl (lv_at hl 2 rfl) ?_
        refine lv_iload_n hx hb dX12_pick_33 rfl (lv_at hl 3 rfl) ?_
        obtain ⟨r10, σ11, hf12, h⟩ := bsS h
        refine ux_callv (va_runV (As := [.int x1, .int x2, .int x3]) (rest := []) ⟨hx, hb, hml, hown, hts⟩ (tX12_pickBest l dC dI cy ad σ x1 x2 x3 H.size r10 σ11 hf12) (cwV 3 hts gX12_pick_X12_pickBest rfl rfl rfl (by decide +kernel) ⟨Nat.le_of_ble_eq_true rfl, Nat.le_of_ble_eq_true rfl⟩) (wp_V hK hN hP hD (va_recv hK hP (ci := 12) (q0 := 0) rfl (wG_of (Nat.le_of_ble_eq_true rfl) rfl))) rfl rfl hl.1 rfl (lv_room (Nat.le_of_ble_eq_true rfl)) dX12_pick_34 ⟨Nat.le_of_ble_eq_true rfl, Nat.le_of_ble_eq_true rfl⟩) hD hS hA (fun H locs hP hD hS => ?_)
        refine lv_goto (tgt := 75) hx hb dX12_pick_37 (by decide) ?_
        exact w75 _ ih σ11 x1 x2 x3 x4 H locs ls h hP hD hS hl
  have w0 : ∀ (σ : S2) (x1 : Int32) (x2 : Int32) (H : Heap) (locs : List Loc) (ls : Array Slot), fX12_pick_0 σ x1 x2 = some (r0, σ9) → va_P (dC, dI) vwCl (wG (cM cy ad) ad 40 σ) H → va_D A (wG (cM cy ad) ad 40 σ) → va_S A s.heap H locs → lv_has ls 5 [(0, .ref (ad 0)), (1, .int x1), (2, .int x2)] → W p l e (headSpec wsX12_pick ({ frames := 3, cells := 0, slots := 0, locals := 72 })).room s m (#[.ref (ad 0), .int a1, .int a2]) below meth c H locs 0 0 (MQ below (va_Qv (fun (_ : Unit) => True) (fun (_ : Unit) t => wAt (dC, dI) A (wG (cM cy ad) ad 40 σ9) t) A) (#[.ref (ad 0), .int a1, .int a2]) s 0 0 A) (F0 m 0 ls []) := by
    intro σ x1 x2 H locs ls h hP hD hS hl
    unfold fX12_pick_0 at h
    refine lv_aload_n hx hb dX12_pick_0 rfl (lv_at hl 0 rfl) ?_
    refine lv_iconst (v := 0) hx hb dX12_pick_1 (by decide) ?_
    refine ux_put (D := (dC, dI)) (ci := 12) (C := RX12) (T := TX12) (M := 59) (fs := (oM ad (σ.1 0))) hx hb hts (fun _ h9 => List.mem_cons_of_mem _ (List.mem_append_right _ h9)) tyX12 tyX12_ok nmX12 hown hK hP hD hS 0 (Nat.le_of_ble_eq_true rfl) rfl rfl 53 (by decide) (hts (.fieldLink RX12 240 "SeatsRoundModel" "pickedMany" "I") (List.mem_of_getElem? (i := 1) rfl)) (fun _ h9 => h9) rfl (tyX12_ok 53 (by decide)) rfl rfl (Nat.le_of_ble_eq_true rfl) (oM_set_53 _ _ _ _ _) h dX12_pick_2 (fun σ13 H locs h hP hD hS => ?_)
    refine lv_iconst (v := 0) hx hb dX12_pick_5 (by decide) ?_
    refine lv_istore_n (lv' := [(3, .int 0), (0, .ref (ad 0)), (1, .int x1), (2, .int x2)]) hx hb dX12_pick_6 rfl hl (by decide) rfl (fun ls hl => ?_)
    have hl := lv_sub hl [1, 2, 3, 0] (l' := [(0, .ref (ad 0)), (1, .int x1), (2, .int x2), (3, .int 0)]) rfl
    refine lv_iload_n hx hb dX12_pick_7 rfl (lv_at hl 2 rfl) ?_
    refine lv_istore (lv' := [(4, .int x2), (0, .ref (ad 0)), (1, .int x1), (2, .int x2), (3, .int 0)]) hx hb dX12_pick_8 hl (by decide) rfl (fun ls hl => ?_)
    have hl := lv_sub hl [1, 2, 3, 4, 0] (l' := [(0, .ref (ad 0)), (1, .int x1), (2, .int x2), (3, .int 0), (4, .int x2)]) rfl
    exact w10 FU σ13 x1 x2 0 x2 H locs ls h hP hD hS hl
  intro H locs ls h hP hD hS hl
  exact w0 σ a1 a2 H locs ls h hP hD hS (lv_sub hl [0, 1, 2] rfl)

set_option maxHeartbeats 4000000 in
set_option maxRecDepth 100000 in
theorem tX12_streetsOf (l : Launch) (dC : Nat → ClassId) (dI : Nat → Nat → Nat) (cy : Nat → ClassId) (ad : Nat → Nat) (σ : S2) (a1 : Int32) (sz : Nat) (r0 : Int32) (h : fX12_streetsOf σ a1 = some r0) : Met l yX12_streetsOf wsX12_streetsOf ({ frames := 1, cells := 0, slots := 0, locals := 23 }) (va_Pc [.ref (ad 0), .int a1] (wPre (dC, dI) cy (wG (cM cy ad) ad 40 σ) sz)) (va_Qi (fun (r : Int32) (_ : Unit) => r = r0) (fun (_ : Unit) t => wAt (dC, dI) (va_A (wG (cM cy ad) ad 40 σ) sz) (wG (cM cy ad) ad 40 σ) t) (va_A (wG (cM cy ad) ad 40 σ) sz)) 0 0 (va_A (wG (cM cy ad) ad 40 σ) sz) := by
  refine Met.ofW (cc := cX12_streetsOf) (maxL := 5) (ret := (some .int)) (by decide) rfl ?_
  intro p e s m args below meth c s₁ B hml hv
  obtain ⟨rfl, hsz, hP, hK, hD0, hN⟩ := hv
  have hx := B.exec
  have hb := B.bytes
  have hr := B.returns
  have hts := atoms_spec (ws := wsX12_streetsOf) B.pre
  have hown : s.vm.findClass RX12 = some m.cls := findClass_of_methodNamed B.named
  have hlocks := B.notSynchronized
  subst hsz
  have hD := hD0.self (sz := s.heap.size)
  generalize hAe : va_A (wG (cM cy ad) ad 40 σ) s.heap.size = A at hD ⊢
  have hA : ∀ q : Nat, s.heap.size ≤ q → A q := fun q h => by rw [← hAe]; exact Or.inr h
  have hS : va_S A s.heap s.heap [] := va_S.rf
  have hl := lv_entry ([.ref (ad 0), .int a1]) (n := 5) (Nat.le_of_ble_eq_true rfl)
  rw [lg_entry_eq]
  generalize (lg_sl ([.ref (ad 0), .int a1]) ++ List.replicate (5 - (lg_sl ([.ref (ad 0), .int a1])).length) Slot.unset).toArray = ls at hl ⊢
  have hl : lv_has ls 5 [(0, .ref (ad 0)), (1, .int a1)] := hl
  unfold fX12_streetsOf at h
  clear hAe hD0
  suffices HH : ∀ (H : Heap) (locs : List Loc) (ls : Array Slot), fX12_streetsOf_0 σ a1 = some r0 → va_P (dC, dI) vwCl (wG (cM cy ad) ad 40 σ) H → va_D A (wG (cM cy ad) ad 40 σ) → va_S A s.heap H locs → lv_has ls 5 [(0, .ref (ad 0)), (1, .int a1)] → W p l e (headSpec wsX12_streetsOf ({ frames := 1, cells := 0, slots := 0, locals := 23 })).room s m (#[.ref (ad 0), .int a1]) below meth c H locs 0 0 (MQ below (va_Qi (fun (r : Int32) (_ : Unit) => r = r0) (fun (_ : Unit) t => wAt (dC, dI) A (wG (cM cy ad) ad 40 σ) t) A) (#[.ref (ad 0), .int a1]) s 0 0 A) (F0 m 0 ls []) from HH s.heap [] ls h hP hD hS hl
  have w44 : ∀ (n : Nat), ∀ (σ : S2) (x2 : Int32) (x3 : Int32) (x4 : Int32) (H : Heap) (locs : List Loc) (ls : Array Slot), fX12_streetsOf_44 n σ x2 x3 x4 = some r0 → va_P (dC, dI) vwCl (wG (cM cy ad) ad 40 σ) H → va_D A (wG (cM cy ad) ad 40 σ) → va_S A s.heap H locs → lv_has ls 5 [(2, .int x2), (3, .int x3), (4, .int x4)] → W p l e (headSpec wsX12_streetsOf ({ frames := 1, cells := 0, slots := 0, locals := 23 })).room s m (#[.ref (ad 0), .int a1]) below meth c H locs 0 0 (MQ below (va_Qi (fun (r : Int32) (_ : Unit) => r = r0) (fun (_ : Unit) t => wAt (dC, dI) A (wG (cM cy ad) ad 40 σ) t) A) (#[.ref (ad 0), .int a1]) s 0 0 A) (F0 m 44 ls []) := by
    intro n
    induction n with
    | zero => intro σ x2 x3 x4 H locs ls h; cases h
    | succ n ih =>
    intro σ x2 x3 x4 H locs ls h hP hD hS hl
    unfold fX12_streetsOf_44 at h
    refine lv_iload hx hb dX12_streetsOf_44 (lv_at hl 2 rfl) ?_
    refine lv_bipush (v := 6) hx hb dX12_streetsOf_46 (by decide) ?_
    refine lv_icmp_ge (tgt := 66) hx hb dX12_streetsOf_48 (by decide) (fun hcd => ?_) (fun hcd => ?_)
    · have h := cdP hcd h
      refine lv_iload_n hx hb dX12_streetsOf_66 rfl (lv_at hl 1 rfl) ?_
      exact ux_iretP hx hb hr h hP hD hS hlocks dX12_streetsOf_67
    · have h := cdN hcd h
      refine lv_iload_n hx hb dX12_streetsOf_51 rfl (lv_at hl 1 rfl) ?_
      refine lv_iload_n hx hb dX12_streetsOf_52 rfl (lv_at hl 0 rfl) ?_
      refine lv_iload hx hb dX12_streetsOf_53 (lv_at hl 2 rfl) ?_
      refine lv_ishr hx hb dX12_streetsOf_55 ?_
      refine lv_iconst (v := 1) hx hb dX12_streetsOf_56 (by decide) ?_
      refine lv_iand hx hb dX12_streetsOf_57 ?_
      refine lv_iadd hx hb dX12_streetsOf_58 ?_
      refine lv_topi (fun v1 ev1 => ?_)
      have h := nmS h ev1
      refine lv_istore_n (lv' := [(3, .int v1), (2, .int x2), (4, .int x4)]) hx hb dX12_streetsOf_59 rfl hl (by decide) rfl (fun ls hl => ?_)
      have hl := lv_sub hl [1, 0, 2] (l' := [(2, .int x2), (3, .int v1), (4, .int x4)]) rfl
      change W _ _ _ _ _ _ _ _ _ _ _ _ _ _ _ (F0 m 60 ls [])
      obtain ⟨v2, ev2⟩ : ∃ y : Int32, y = x4 + 1 := ⟨_, rfl⟩
      have h := nmS h ev2
      refine lv_iinc (v := v2) (lv' := [(4, .int v2), (2, .int x2), (3, .int v1)]) hx hb dX12_streetsOf_60 hl (k := 2) rfl (by rw [ev2]; rfl) (by decide) rfl (fun ls hl => ?_)
      have hl := lv_sub hl [1, 2, 0] (l' := [(2, .int x2), (3, .int v1), (4, .int v2)]) rfl
      refine lv_goto (tgt := 44) hx hb dX12_streetsOf_63 (by decide) ?_
      exact ih σ x2 v1 v2 H locs ls h hP hD hS hl
  have w4 : ∀ (n : Nat), ∀ (σ : S2) (x1 : Int32) (x2 : Int32) (x3 : Int32) (H : Heap) (locs : List Loc) (ls : Array Slot), fX12_streetsOf_4 n σ x1 x2 x3 = some r0 → va_P (dC, dI) vwCl (wG (cM cy ad) ad 40 σ) H → va_D A (wG (cM cy ad) ad 40 σ) → va_S A s.heap H locs → lv_has ls 5 [(0, .ref (ad 0)), (1, .int x1), (2, .int x2), (3, .int x3)] → W p l e (headSpec wsX12_streetsOf ({ frames := 1, cells := 0, slots := 0, locals := 23 })).room s m (#[.ref (ad 0), .int a1]) below meth c H locs 0 0 (MQ below (va_Qi (fun (r : Int32) (_ : Unit) => r = r0) (fun (_ : Unit) t => wAt (dC, dI) A (wG (cM cy ad) ad 40 σ) t) A) (#[.ref (ad 0), .int a1]) s 0 0 A) (F0 m 4 ls []) := by
    intro n
    induction n with
    | zero => intro σ x1 x2 x3 H locs ls h; cases h
    | succ n ih =>
    intro σ x1 x2 x3 H locs ls h hP hD hS hl
    unfold fX12_streetsOf_4 at h
    refine lv_iload_n hx hb dX12_streetsOf_4 rfl (lv_at hl 3 rfl) ?_
    refine lv_aload_n hx hb dX12_streetsOf_5 rfl (lv_at hl 0 rfl) ?_
    refine ux_get (D := (dC, dI)) (ci := 12) (v := .int (σ.1 0 55)) (C := RX12) (T := TX12) (M := 59) (fs := (oM ad (σ.1 0))) hx hb hts (fun _ h9 => List.mem_cons_of_mem _ (List.mem_append_right _ h9)) hown hK hP 0 (Nat.le_of_ble_eq_true rfl) rfl rfl 55 (by decide) (hts (.fieldLink RX12 250 "SeatsRoundModel" "chosenMany" "I") (List.mem_of_getElem? (i := 1) rfl)) (fun _ h9 => h9) rfl dX12_streetsOf_6 ?_
    refine lv_icmp_ge (tgt := 39) hx hb dX12_streetsOf_9 (by decide) (fun hcd => ?_) (fun hcd => ?_)
    · have h := cdP hcd h
      refine lv_iconst (v := 0) hx hb dX12_streetsOf_39 (by decide) ?_
      refine lv_istore_n (lv' := [(3, .int 0), (0, .ref (ad 0)), (1, .int x1), (2, .int x2)]) hx hb dX12_streetsOf_40 rfl hl (by decide) rfl (fun ls hl => ?_)
      have hl := lv_sub hl [1, 2, 3, 0] (l' := [(0, .ref (ad 0)), (1, .int x1), (2, .int x2), (3, .int 0)]) rfl
      refine lv_iconst (v := 0) hx hb dX12_streetsOf_41 (by decide) ?_
      refine lv_istore (lv' := [(4, .int 0), (0, .ref (ad 0)), (1, .int x1), (2, .int x2), (3, .int 0)]) hx hb dX12_streetsOf_42 hl (by decide) rfl (fun ls hl => ?_)
      have hl := lv_sub hl [1, 2, 3, 4, 0] (l' := [(0, .ref (ad 0)), (1, .int x1), (2, .int x2), (3, .int 0), (4, .int 0)]) rfl
      exact w44 FU σ x2 0 0 H locs ls h hP hD hS (lv_sub hl [2, 3, 4] rfl)
    · have h := cdN hcd h
      refine lv_iload_n hx hb dX12_streetsOf_12 rfl (lv_at hl 2 rfl) ?_
      refine lv_iconst (v := 1) hx hb dX12_streetsOf_13 (by decide) ?_
      refine lv_aload_n hx hb dX12_streetsOf_14 rfl (lv_at hl 0 rfl) ?_
      refine ux_get (D := (dC, dI)) (ci := 12) (v := .ref (ad 16)) (C := RX12) (T := TX12) (M := 59) (fs := (oM ad (σ.1 0))) hx hb hts (fun _ h9 => List.mem_cons_of_mem _ (List.mem_append_right _ h9)) hown hK hP 0 (Nat.le_of_ble_eq_true rfl) rfl rfl 18 (by decide) (hts (.fieldLink RX12 56 "SeatsRoundModel" "streetIn" "[I") (List.mem_of_getElem? (i := 2) rfl)) (fun _ h9 => h9) rfl dX12_streetsOf_15 ?_
      refine lv_bipush (v := 12) hx hb dX12_streetsOf_18 (by decide) ?_
      refine lv_iload_n hx hb dX12_streetsOf_20 rfl (lv_at hl 1 rfl) ?_
      refine lv_imul hx hb dX12_streetsOf_21 ?_
      refine lv_aload_n hx hb dX12_streetsOf_22 rfl (lv_at hl 0 rfl) ?_
      change W _ _ _ _ _ _ _ _ _ _ _ _ _ _ _ (F0 m 23 ls [.ref (ad 0), .int (12 * x1), .ref (ad 16), .int 1, .int x2])
      refine ux_get (D := (dC, dI)) (ci := 12) (v := .ref (ad 36)) (C := RX12) (T := TX12) (M := 59) (fs := (oM ad (σ.1 0))) hx hb hts (fun _ h9 => List.mem_cons_of_mem _ (List.mem_append_right _ h9)) hown hK hP 0 (Nat.le_of_ble_eq_true rfl) rfl rfl 54 (by decide) (hts (.fieldLink RX12 121 "SeatsRoundModel" "chosen" "[I") (List.mem_of_getElem? (i := 3) rfl)) (fun _ h9 => h9) rfl dX12_streetsOf_23 ?_
      refine lv_iload_n hx hb dX12_streetsOf_26 rfl (lv_at hl 3 rfl) ?_
      refine ux_iald hx hb hK hP 36 0 (Nat.le_of_ble_eq_true rfl) (cM_36 _ _ _ _) rfl h dX12_streetsOf_27 (fun v3 h => ?_)
      refine lv_iadd hx hb dX12_streetsOf_28 ?_
      refine ux_iald hx hb hK hP 16 0 (Nat.le_of_ble_eq_true rfl) (cM_16 _ _ _ _) rfl h dX12_streetsOf_29 (fun v4 h => ?_)
      refine lv_ishl hx hb dX12_streetsOf_30 ?_
      refine lv_ior hx hb dX12_streetsOf_31 ?_
      refine lv_topi (fun v5 ev5 => ?_)
      have h := nmS h ev5
      refine lv_istore_n (lv' := [(2, .int v5), (0, .ref (ad 0)), (1, .int x1), (3, .int x3)]) hx hb dX12_streetsOf_32 rfl hl (by decide) rfl (fun ls hl => ?_)
      have hl := lv_sub hl [1, 2, 0, 3] (l' := [(0, .ref (ad 0)), (1, .int x1), (2, .int v5), (3, .int x3)]) rfl
      obtain ⟨v6, ev6⟩ : ∃ y : Int32, y = x3 + 1 := ⟨_, rfl⟩
      have h := nmS h ev6
      refine lv_iinc (v := v6) (lv' := [(3, .int v6), (0, .ref (ad 0)), (1, .int x1), (2, .int v5)]) hx hb dX12_streetsOf_33 hl (k := 3) rfl (by rw [ev6]; rfl) (by decide) rfl (fun ls hl => ?_)
      have hl := lv_sub hl [1, 2, 3, 0] (l' := [(0, .ref (ad 0)), (1, .int x1), (2, .int v5), (3, .int v6)]) rfl
      refine lv_goto (tgt := 4) hx hb dX12_streetsOf_36 (by decide) ?_
      exact ih σ x1 v5 v6 H locs ls h hP hD hS hl
  have w0 : ∀ (σ : S2) (x1 : Int32) (H : Heap) (locs : List Loc) (ls : Array Slot), fX12_streetsOf_0 σ x1 = some r0 → va_P (dC, dI) vwCl (wG (cM cy ad) ad 40 σ) H → va_D A (wG (cM cy ad) ad 40 σ) → va_S A s.heap H locs → lv_has ls 5 [(0, .ref (ad 0)), (1, .int x1)] → W p l e (headSpec wsX12_streetsOf ({ frames := 1, cells := 0, slots := 0, locals := 23 })).room s m (#[.ref (ad 0), .int a1]) below meth c H locs 0 0 (MQ below (va_Qi (fun (r : Int32) (_ : Unit) => r = r0) (fun (_ : Unit) t => wAt (dC, dI) A (wG (cM cy ad) ad 40 σ) t) A) (#[.ref (ad 0), .int a1]) s 0 0 A) (F0 m 0 ls []) := by
    intro σ x1 H locs ls h hP hD hS hl
    unfold fX12_streetsOf_0 at h
    refine lv_iconst (v := 0) hx hb dX12_streetsOf_0 (by decide) ?_
    refine lv_istore_n (lv' := [(2, .int 0), (0, .ref (ad 0)), (1, .int x1)]) hx hb dX12_streetsOf_1 rfl hl (by decide) rfl (fun ls hl => ?_)
    have hl := lv_sub hl [1, 2, 0] (l' := [(0, .ref (ad 0)), (1, .int x1), (2, .int 0)]) rfl
    refine lv_iconst (v := 0) hx hb dX12_streetsOf_2 (by decide) ?_
    refine lv_istore_n (lv' := [(3, .int 0), (0, .ref (ad 0)), (1, .int x1), (2, .int 0)]) hx hb dX12_streetsOf_3 rfl hl (by decide) rfl (fun ls hl => ?_)
    have hl := lv_sub hl [1, 2, 3, 0] (l' := [(0, .ref (ad 0)), (1, .int x1), (2, .int 0), (3, .int 0)]) rfl
    exact w4 FU σ x1 0 0 H locs ls h hP hD hS hl
  intro H locs ls h hP hD hS hl
  exact w0 σ a1 H locs ls h hP hD hS (lv_sub hl [0, 1] rfl)

set_option maxHeartbeats 4000000 in
set_option maxRecDepth 100000 in
theorem tX12_isChosen (l : Launch) (dC : Nat → ClassId) (dI : Nat → Nat → Nat) (cy : Nat → ClassId) (ad : Nat → Nat) (σ : S2) (a1 : Int32) (sz : Nat) (r0 : Int32) (h : fX12_isChosen σ a1 = some r0) : Met l yX12_isChosen wsX12_isChosen ({ frames := 1, cells := 0, slots := 0, locals := 23 }) (va_Pc [.ref (ad 0), .int a1] (wPre (dC, dI) cy (wG (cM cy ad) ad 40 σ) sz)) (va_Qi (fun (r : Int32) (_ : Unit) => r = r0) (fun (_ : Unit) t => wAt (dC, dI) (va_A (wG (cM cy ad) ad 40 σ) sz) (wG (cM cy ad) ad 40 σ) t) (va_A (wG (cM cy ad) ad 40 σ) sz)) 0 0 (va_A (wG (cM cy ad) ad 40 σ) sz) := by
  refine Met.ofW (cc := cX12_isChosen) (maxL := 3) (ret := (some .boolean)) (by decide) rfl ?_
  intro p e s m args below meth c s₁ B hml hv
  obtain ⟨rfl, hsz, hP, hK, hD0, hN⟩ := hv
  have hx := B.exec
  have hb := B.bytes
  have hr := B.returns
  have hts := atoms_spec (ws := wsX12_isChosen) B.pre
  have hown : s.vm.findClass RX12 = some m.cls := findClass_of_methodNamed B.named
  have hlocks := B.notSynchronized
  subst hsz
  have hD := hD0.self (sz := s.heap.size)
  generalize hAe : va_A (wG (cM cy ad) ad 40 σ) s.heap.size = A at hD ⊢
  have hA : ∀ q : Nat, s.heap.size ≤ q → A q := fun q h => by rw [← hAe]; exact Or.inr h
  have hS : va_S A s.heap s.heap [] := va_S.rf
  have hl := lv_entry ([.ref (ad 0), .int a1]) (n := 3) (Nat.le_of_ble_eq_true rfl)
  rw [lg_entry_eq]
  generalize (lg_sl ([.ref (ad 0), .int a1]) ++ List.replicate (3 - (lg_sl ([.ref (ad 0), .int a1])).length) Slot.unset).toArray = ls at hl ⊢
  have hl : lv_has ls 3 [(0, .ref (ad 0)), (1, .int a1)] := hl
  unfold fX12_isChosen at h
  clear hAe hD0
  suffices HH : ∀ (H : Heap) (locs : List Loc) (ls : Array Slot), fX12_isChosen_0 σ a1 = some r0 → va_P (dC, dI) vwCl (wG (cM cy ad) ad 40 σ) H → va_D A (wG (cM cy ad) ad 40 σ) → va_S A s.heap H locs → lv_has ls 3 [(0, .ref (ad 0)), (1, .int a1)] → W p l e (headSpec wsX12_isChosen ({ frames := 1, cells := 0, slots := 0, locals := 23 })).room s m (#[.ref (ad 0), .int a1]) below meth c H locs 0 0 (MQ below (va_Qi (fun (r : Int32) (_ : Unit) => r = r0) (fun (_ : Unit) t => wAt (dC, dI) A (wG (cM cy ad) ad 40 σ) t) A) (#[.ref (ad 0), .int a1]) s 0 0 A) (F0 m 0 ls []) from HH s.heap [] ls h hP hD hS hl
  have w2 : ∀ (n : Nat), ∀ (σ : S2) (x1 : Int32) (x2 : Int32) (H : Heap) (locs : List Loc) (ls : Array Slot), fX12_isChosen_2 n σ x1 x2 = some r0 → va_P (dC, dI) vwCl (wG (cM cy ad) ad 40 σ) H → va_D A (wG (cM cy ad) ad 40 σ) → va_S A s.heap H locs → lv_has ls 3 [(0, .ref (ad 0)), (1, .int x1), (2, .int x2)] → W p l e (headSpec wsX12_isChosen ({ frames := 1, cells := 0, slots := 0, locals := 23 })).room s m (#[.ref (ad 0), .int a1]) below meth c H locs 0 0 (MQ below (va_Qi (fun (r : Int32) (_ : Unit) => r = r0) (fun (_ : Unit) t => wAt (dC, dI) A (wG (cM cy ad) ad 40 σ) t) A) (#[.ref (ad 0), .int a1]) s 0 0 A) (F0 m 2 ls []) := by
    intro n
    induction n with
    | zero => intro σ x1 x2 H locs ls h; cases h
    | succ n ih =>
    intro σ x1 x2 H locs ls h hP hD hS hl
    unfold fX12_isChosen_2 at h
    refine lv_iload_n hx hb dX12_isChosen_2 rfl (lv_at hl 2 rfl) ?_
    refine lv_aload_n hx hb dX12_isChosen_3 rfl (lv_at hl 0 rfl) ?_
    refine ux_get (D := (dC, dI)) (ci := 12) (v := .int (σ.1 0 55)) (C := RX12) (T := TX12) (M := 59) (fs := (oM ad (σ.1 0))) hx hb hts (fun _ h9 => List.mem_cons_of_mem _ (List.mem_append_right _ h9)) hown hK hP 0 (Nat.le_of_ble_eq_true rfl) rfl rfl 55 (by decide) (hts (.fieldLink RX12 250 "SeatsRoundModel" "chosenMany" "I") (List.mem_of_getElem? (i := 1) rfl)) (fun _ h9 => h9) rfl dX12_isChosen_4 ?_
    refine lv_icmp_ge (tgt := 28) hx hb dX12_isChosen_7 (by decide) (fun hcd => ?_) (fun hcd => ?_)
    · have h := cdP hcd h
      refine lv_iconst (v := 0) hx hb dX12_isChosen_28 (by decide) ?_
      exact ux_zretP hx hb hr rfl h hP hD hS hlocks dX12_isChosen_29
    · have h := cdN hcd h
      refine lv_aload_n hx hb dX12_isChosen_10 rfl (lv_at hl 0 rfl) ?_
      refine ux_get (D := (dC, dI)) (ci := 12) (v := .ref (ad 36)) (C := RX12) (T := TX12) (M := 59) (fs := (oM ad (σ.1 0))) hx hb hts (fun _ h9 => List.mem_cons_of_mem _ (List.mem_append_right _ h9)) hown hK hP 0 (Nat.le_of_ble_eq_true rfl) rfl rfl 54 (by decide) (hts (.fieldLink RX12 121 "SeatsRoundModel" "chosen" "[I") (List.mem_of_getElem? (i := 2) rfl)) (fun _ h9 => h9) rfl dX12_isChosen_11 ?_
      refine lv_iload_n hx hb dX12_isChosen_14 rfl (lv_at hl 2 rfl) ?_
      refine ux_iald hx hb hK hP 36 0 (Nat.le_of_ble_eq_true rfl) (cM_36 _ _ _ _) rfl h dX12_isChosen_15 (fun v1 h => ?_)
      refine lv_iload_n hx hb dX12_isChosen_16 rfl (lv_at hl 1 rfl) ?_
      refine lv_icmp_ne (tgt := 22) hx hb dX12_isChosen_17 (by decide) (fun hcd => ?_) (fun hcd => ?_)
      · have h := cdN hcd h
        obtain ⟨v2, ev2⟩ : ∃ y : Int32, y = x2 + 1 := ⟨_, rfl⟩
        have h := nmS h ev2
        refine lv_iinc (v := v2) (lv' := [(2, .int v2), (0, .ref (ad 0)), (1, .int x1)]) hx hb dX12_isChosen_22 hl (k := 2) rfl (by rw [ev2]; rfl) (by decide) rfl (fun ls hl => ?_)
        have hl := lv_sub hl [1, 2, 0] (l' := [(0, .ref (ad 0)), (1, .int x1), (2, .int v2)]) rfl
        refine lv_goto (tgt := 2) hx hb dX12_isChosen_25 (by decide) ?_
        exact ih σ x1 v2 H locs ls h hP hD hS hl
      · have h := cdP hcd h
        refine lv_iconst (v := 1) hx hb dX12_isChosen_20 (by decide) ?_
        exact ux_zretP hx hb hr rfl h hP hD hS hlocks dX12_isChosen_21
  have w0 : ∀ (σ : S2) (x1 : Int32) (H : Heap) (locs : List Loc) (ls : Array Slot), fX12_isChosen_0 σ x1 = some r0 → va_P (dC, dI) vwCl (wG (cM cy ad) ad 40 σ) H → va_D A (wG (cM cy ad) ad 40 σ) → va_S A s.heap H locs → lv_has ls 3 [(0, .ref (ad 0)), (1, .int x1)] → W p l e (headSpec wsX12_isChosen ({ frames := 1, cells := 0, slots := 0, locals := 23 })).room s m (#[.ref (ad 0), .int a1]) below meth c H locs 0 0 (MQ below (va_Qi (fun (r : Int32) (_ : Unit) => r = r0) (fun (_ : Unit) t => wAt (dC, dI) A (wG (cM cy ad) ad 40 σ) t) A) (#[.ref (ad 0), .int a1]) s 0 0 A) (F0 m 0 ls []) := by
    intro σ x1 H locs ls h hP hD hS hl
    unfold fX12_isChosen_0 at h
    refine lv_iconst (v := 0) hx hb dX12_isChosen_0 (by decide) ?_
    refine lv_istore_n (lv' := [(2, .int 0), (0, .ref (ad 0)), (1, .int x1)]) hx hb dX12_isChosen_1 rfl hl (by decide) rfl (fun ls hl => ?_)
    have hl := lv_sub hl [1, 2, 0] (l' := [(0, .ref (ad 0)), (1, .int x1), (2, .int 0)]) rfl
    exact w2 FU σ x1 0 H locs ls h hP hD hS hl
  intro H locs ls h hP hD hS hl
  exact w0 σ a1 H locs ls h hP hD hS (lv_sub hl [0, 1] rfl)

set_option maxHeartbeats 4000000 in
set_option maxRecDepth 100000 in
theorem tX12_choose (l : Launch) (dC : Nat → ClassId) (dI : Nat → Nat → Nat) (cy : Nat → ClassId) (ad : Nat → Nat) (σ : S2) (a1 : Int32) (a2 : Int32) (sz : Nat) (r0 : Unit) (σ9 : S2) (h : fX12_choose σ a1 a2 = some (r0, σ9)) : Met l yX12_choose wsX12_choose ({ frames := 4, cells := 0, slots := 0, locals := 96 }) (va_Pc [.ref (ad 0), .int a1, .int a2] (wPre (dC, dI) cy (wG (cM cy ad) ad 40 σ) sz)) (va_Qv (fun (_ : Unit) => True) (fun (_ : Unit) t => wAt (dC, dI) (va_A (wG (cM cy ad) ad 40 σ) sz) (wG (cM cy ad) ad 40 σ9) t) (va_A (wG (cM cy ad) ad 40 σ) sz)) 0 0 (va_A (wG (cM cy ad) ad 40 σ) sz) := by
  refine Met.ofW (cc := cX12_choose) (maxL := 7) (ret := none) (by decide) rfl ?_
  intro p e s m args below meth c s₁ B hml hv
  obtain ⟨rfl, hsz, hP, hK, hD0, hN⟩ := hv
  have hx := B.exec
  have hb := B.bytes
  have hr := B.returns
  have hts := atoms_spec (ws := wsX12_choose) B.pre
  have hown : s.vm.findClass RX12 = some m.cls := findClass_of_methodNamed B.named
  have hlocks := B.notSynchronized
  subst hsz
  have hD := hD0.self (sz := s.heap.size)
  generalize hAe : va_A (wG (cM cy ad) ad 40 σ) s.heap.size = A at hD ⊢
  have hA : ∀ q : Nat, s.heap.size ≤ q → A q := fun q h => by rw [← hAe]; exact Or.inr h
  have hS : va_S A s.heap s.heap [] := va_S.rf
  have hl := lv_entry ([.ref (ad 0), .int a1, .int a2]) (n := 7) (Nat.le_of_ble_eq_true rfl)
  rw [lg_entry_eq]
  generalize (lg_sl ([.ref (ad 0), .int a1, .int a2]) ++ List.replicate (7 - (lg_sl ([.ref (ad 0), .int a1, .int a2])).length) Slot.unset).toArray = ls at hl ⊢
  have hl : lv_has ls 7 [(0, .ref (ad 0)), (1, .int a1), (2, .int a2)] := hl
  unfold fX12_choose at h
  clear hAe hD0
  suffices HH : ∀ (H : Heap) (locs : List Loc) (ls : Array Slot), fX12_choose_0 σ a1 a2 = some (r0, σ9) → va_P (dC, dI) vwCl (wG (cM cy ad) ad 40 σ) H → va_D A (wG (cM cy ad) ad 40 σ) → va_S A s.heap H locs → lv_has ls 7 [(0, .ref (ad 0)), (1, .int a1), (2, .int a2)] → W p l e (headSpec wsX12_choose ({ frames := 4, cells := 0, slots := 0, locals := 96 })).room s m (#[.ref (ad 0), .int a1, .int a2]) below meth c H locs 0 0 (MQ below (va_Qv (fun (_ : Unit) => True) (fun (_ : Unit) t => wAt (dC, dI) A (wG (cM cy ad) ad 40 σ9) t) A) (#[.ref (ad 0), .int a1, .int a2]) s 0 0 A) (F0 m 0 ls []) from HH s.heap [] ls h hP hD hS hl
  have w146 : ∀ (k21 : S2 → Int32 → Int32 → Int32 → Option (Unit × S2)) (hk21 : ∀ (σ : S2) (x1 : Int32) (x3 : Int32) (x4 : Int32) (H : Heap) (locs : List Loc) (ls : Array Slot), k21 σ x1 x3 x4 = some (r0, σ9) → va_P (dC, dI) vwCl (wG (cM cy ad) ad 40 σ) H → va_D A (wG (cM cy ad) ad 40 σ) → va_S A s.heap H locs → lv_has ls 7 [(0, .ref (ad 0)), (1, .int x1), (3, .int x3), (4, .int x4)] → W p l e (headSpec wsX12_choose ({ frames := 4, cells := 0, slots := 0, locals := 96 })).room s m (#[.ref (ad 0), .int a1, .int a2]) below meth c H locs 0 0 (MQ below (va_Qv (fun (_ : Unit) => True) (fun (_ : Unit) t => wAt (dC, dI) A (wG (cM cy ad) ad 40 σ9) t) A) (#[.ref (ad 0), .int a1, .int a2]) s 0 0 A) (F0 m 21 ls [])) , ∀ (σ : S2) (x1 : Int32) (x3 : Int32) (x4 : Int32) (H : Heap) (locs : List Loc) (ls : Array Slot), fX12_choose_146 k21 σ x1 x3 x4 = some (r0, σ9) → va_P (dC, dI) vwCl (wG (cM cy ad) ad 40 σ) H → va_D A (wG (cM cy ad) ad 40 σ) → va_S A s.heap H locs → lv_has ls 7 [(0, .ref (ad 0)), (1, .int x1), (3, .int x3), (4, .int x4)] → W p l e (headSpec wsX12_choose ({ frames := 4, cells := 0, slots := 0, locals := 96 })).room s m (#[.ref (ad 0), .int a1, .int a2]) below meth c H locs 0 0 (MQ below (va_Qv (fun (_ : Unit) => True) (fun (_ : Unit) t => wAt (dC, dI) A (wG (cM cy ad) ad 40 σ9) t) A) (#[.ref (ad 0), .int a1, .int a2]) s 0 0 A) (F0 m 146 ls []) := by
    intro k21 hk21 σ x1 x3 x4 H locs ls h hP hD hS hl
    unfold fX12_choose_146 at h
    obtain ⟨v1, ev1⟩ : ∃ y : Int32, y = x4 + 1 := ⟨_, rfl⟩
    have h := nmS h ev1
    refine lv_iinc (v := v1) (lv' := [(4, .int v1), (0, .ref (ad 0)), (1, .int x1), (3, .int x3)]) hx hb dX12_choose_146 hl (k := 3) rfl (by rw [ev1]; rfl) (by decide) rfl (fun ls hl => ?_)
    have hl := lv_sub hl [1, 2, 3, 0] (l' := [(0, .ref (ad 0)), (1, .int x1), (3, .int x3), (4, .int v1)]) rfl
    refine lv_goto (tgt := 21) hx hb dX12_choose_149 (by decide) ?_
    exact hk21 σ x1 x3 v1 H locs ls h hP hD hS hl
  have w142 : ∀ (k21 : S2 → Int32 → Int32 → Int32 → Option (Unit × S2)) (hk21 : ∀ (σ : S2) (x1 : Int32) (x3 : Int32) (x4 : Int32) (H : Heap) (locs : List Loc) (ls : Array Slot), k21 σ x1 x3 x4 = some (r0, σ9) → va_P (dC, dI) vwCl (wG (cM cy ad) ad 40 σ) H → va_D A (wG (cM cy ad) ad 40 σ) → va_S A s.heap H locs → lv_has ls 7 [(0, .ref (ad 0)), (1, .int x1), (3, .int x3), (4, .int x4)] → W p l e (headSpec wsX12_choose ({ frames := 4, cells := 0, slots := 0, locals := 96 })).room s m (#[.ref (ad 0), .int a1, .int a2]) below meth c H locs 0 0 (MQ below (va_Qv (fun (_ : Unit) => True) (fun (_ : Unit) t => wAt (dC, dI) A (wG (cM cy ad) ad 40 σ9) t) A) (#[.ref (ad 0), .int a1, .int a2]) s 0 0 A) (F0 m 21 ls [])) , ∀ (σ : S2) (x1 : Int32) (x3 : Int32) (x4 : Int32) (s0 : Int32) (s1 : Int32) (H : Heap) (locs : List Loc) (ls : Array Slot), fX12_choose_142 k21 σ x1 x3 x4 s0 s1 = some (r0, σ9) → va_P (dC, dI) vwCl (wG (cM cy ad) ad 40 σ) H → va_D A (wG (cM cy ad) ad 40 σ) → va_S A s.heap H locs → lv_has ls 7 [(0, .ref (ad 0)), (1, .int x1), (3, .int x3), (4, .int x4)] → W p l e (headSpec wsX12_choose ({ frames := 4, cells := 0, slots := 0, locals := 96 })).room s m (#[.ref (ad 0), .int a1, .int a2]) below meth c H locs 0 0 (MQ below (va_Qv (fun (_ : Unit) => True) (fun (_ : Unit) t => wAt (dC, dI) A (wG (cM cy ad) ad 40 σ9) t) A) (#[.ref (ad 0), .int a1, .int a2]) s 0 0 A) (F0 m 142 ls [.int s0, .int s1, .ref (ad 0)]) := by
    intro k21 hk21 σ x1 x3 x4 s0 s1 H locs ls h hP hD hS hl
    unfold fX12_choose_142 at h
    refine lv_isub hx hb dX12_choose_142 ?_
    refine ux_put (D := (dC, dI)) (ci := 12) (C := RX12) (T := TX12) (M := 59) (fs := (oM ad (σ.1 0))) hx hb hts (fun _ h9 => List.mem_cons_of_mem _ (List.mem_append_right _ h9)) tyX12 tyX12_ok nmX12 hown hK hP hD hS 0 (Nat.le_of_ble_eq_true rfl) rfl rfl 55 (by decide) (hts (.fieldLink RX12 250 "SeatsRoundModel" "chosenMany" "I") (List.mem_of_getElem? (i := 1) rfl)) (fun _ h9 => h9) rfl (tyX12_ok 55 (by decide)) rfl rfl (Nat.le_of_ble_eq_true rfl) (oM_set_55 _ _ _ _ _) h dX12_choose_143 (fun σ2 H locs h hP hD hS => ?_)
    exact w146 _ hk21 σ2 x1 x3 x4 H locs ls h hP hD hS hl
  have w141 : ∀ (k21 : S2 → Int32 → Int32 → Int32 → Option (Unit × S2)) (hk21 : ∀ (σ : S2) (x1 : Int32) (x3 : Int32) (x4 : Int32) (H : Heap) (locs : List Loc) (ls : Array Slot), k21 σ x1 x3 x4 = some (r0, σ9) → va_P (dC, dI) vwCl (wG (cM cy ad) ad 40 σ) H → va_D A (wG (cM cy ad) ad 40 σ) → va_S A s.heap H locs → lv_has ls 7 [(0, .ref (ad 0)), (1, .int x1), (3, .int x3), (4, .int x4)] → W p l e (headSpec wsX12_choose ({ frames := 4, cells := 0, slots := 0, locals := 96 })).room s m (#[.ref (ad 0), .int a1, .int a2]) below meth c H locs 0 0 (MQ below (va_Qv (fun (_ : Unit) => True) (fun (_ : Unit) t => wAt (dC, dI) A (wG (cM cy ad) ad 40 σ9) t) A) (#[.ref (ad 0), .int a1, .int a2]) s 0 0 A) (F0 m 21 ls [])) , ∀ (σ : S2) (x1 : Int32) (x3 : Int32) (x4 : Int32) (s0 : Int32) (H : Heap) (locs : List Loc) (ls : Array Slot), fX12_choose_141 k21 σ x1 x3 x4 s0 = some (r0, σ9) → va_P (dC, dI) vwCl (wG (cM cy ad) ad 40 σ) H → va_D A (wG (cM cy ad) ad 40 σ) → va_S A s.heap H locs → lv_has ls 7 [(0, .ref (ad 0)), (1, .int x1), (3, .int x3), (4, .int x4)] → W p l e (headSpec wsX12_choose ({ frames := 4, cells := 0, slots := 0, locals := 96 })).room s m (#[.ref (ad 0), .int a1, .int a2]) below meth c H locs 0 0 (MQ below (va_Qv (fun (_ : Unit) => True) (fun (_ : Unit) t => wAt (dC, dI) A (wG (cM cy ad) ad 40 σ9) t) A) (#[.ref (ad 0), .int a1, .int a2]) s 0 0 A) (F0 m 141 ls [.int s0, .ref (ad 0)]) := by
    intro k21 hk21 σ x1 x3 x4 s0 H locs ls h hP hD hS hl
    unfold fX12_choose_141 at h
    refine lv_iconst (v := 0) hx hb dX12_choose_141 (by decide) ?_
    exact w142 _ hk21 σ x1 x3 x4 0 s0 H locs ls h hP hD hS hl
  have w85 : ∀ (k21 : S2 → Int32 → Int32 → Int32 → Option (Unit × S2)) (hk21 : ∀ (σ : S2) (x1 : Int32) (x3 : Int32) (x4 : Int32) (H : Heap) (locs : List Loc) (ls : Array Slot), k21 σ x1 x3 x4 = some (r0, σ9) → va_P (dC, dI) vwCl (wG (cM cy ad) ad 40 σ) H → va_D A (wG (cM cy ad) ad 40 σ) → va_S A s.heap H locs → lv_has ls 7 [(0, .ref (ad 0)), (1, .int x1), (3, .int x3), (4, .int x4)] → W p l e (headSpec wsX12_choose ({ frames := 4, cells := 0, slots := 0, locals := 96 })).room s m (#[.ref (ad 0), .int a1, .int a2]) below meth c H locs 0 0 (MQ below (va_Qv (fun (_ : Unit) => True) (fun (_ : Unit) t => wAt (dC, dI) A (wG (cM cy ad) ad 40 σ9) t) A) (#[.ref (ad 0), .int a1, .int a2]) s 0 0 A) (F0 m 21 ls [])) , ∀ (σ : S2) (x1 : Int32) (x3 : Int32) (x4 : Int32) (x5 : Int32) (s0 : Int32) (H : Heap) (locs : List Loc) (ls : Array Slot), fX12_choose_85 k21 σ x1 x3 x4 x5 s0 = some (r0, σ9) → va_P (dC, dI) vwCl (wG (cM cy ad) ad 40 σ) H → va_D A (wG (cM cy ad) ad 40 σ) → va_S A s.heap H locs → lv_has ls 7 [(0, .ref (ad 0)), (1, .int x1), (3, .int x3), (4, .int x4), (5, .int x5)] → W p l e (headSpec wsX12_choose ({ frames := 4, cells := 0, slots := 0, locals := 96 })).room s m (#[.ref (ad 0), .int a1, .int a2]) below meth c H locs 0 0 (MQ below (va_Qv (fun (_ : Unit) => True) (fun (_ : Unit) t => wAt (dC, dI) A (wG (cM cy ad) ad 40 σ9) t) A) (#[.ref (ad 0), .int a1, .int a2]) s 0 0 A) (F0 m 85 ls [.int s0]) := by
    intro k21 hk21 σ x1 x3 x4 x5 s0 H locs ls h hP hD hS hl
    unfold fX12_choose_85 at h
    refine lv_istore (lv' := [(6, .int s0), (0, .ref (ad 0)), (1, .int x1), (3, .int x3), (4, .int x4), (5, .int x5)]) hx hb dX12_choose_85 hl (by decide) rfl (fun ls hl => ?_)
    have hl := lv_sub hl [1, 2, 3, 4, 5, 0] (l' := [(0, .ref (ad 0)), (1, .int x1), (3, .int x3), (4, .int x4), (5, .int x5), (6, .int s0)]) rfl
    refine lv_iload hx hb dX12_choose_87 (lv_at hl 5 rfl) ?_
    refine lv_if_eq (tgt := 146) hx hb dX12_choose_89 (by decide) (fun hcd => ?_) (fun hcd => ?_)
    · have h := cdP hcd h
      exact w146 _ hk21 σ x1 x3 x4 H locs ls h hP hD hS (lv_sub hl [0, 1, 2, 3] rfl)
    · have h := cdN hcd h
      refine lv_aload_n hx hb dX12_choose_92 rfl (lv_at hl 0 rfl) ?_
      refine ux_get (D := (dC, dI)) (ci := 12) (v := .ref (ad 36)) (C := RX12) (T := TX12) (M := 59) (fs := (oM ad (σ.1 0))) hx hb hts (fun _ h9 => List.mem_cons_of_mem _ (List.mem_append_right _ h9)) hown hK hP 0 (Nat.le_of_ble_eq_true rfl) rfl rfl 54 (by decide) (hts (.fieldLink RX12 121 "SeatsRoundModel" "chosen" "[I") (List.mem_of_getElem? (i := 6) rfl)) (fun _ h9 => h9) rfl dX12_choose_93 ?_
      refine lv_aload_n hx hb dX12_choose_96 rfl (lv_at hl 0 rfl) ?_
      refine ux_get (D := (dC, dI)) (ci := 12) (v := .int (σ.1 0 55)) (C := RX12) (T := TX12) (M := 59) (fs := (oM ad (σ.1 0))) hx hb hts (fun _ h9 => List.mem_cons_of_mem _ (List.mem_append_right _ h9)) hown hK hP 0 (Nat.le_of_ble_eq_true rfl) rfl rfl 55 (by decide) (hts (.fieldLink RX12 250 "SeatsRoundModel" "chosenMany" "I") (List.mem_of_getElem? (i := 1) rfl)) (fun _ h9 => h9) rfl dX12_choose_97 ?_
      refine lv_aload_n hx hb dX12_choose_100 rfl (lv_at hl 0 rfl) ?_
      refine ux_get (D := (dC, dI)) (ci := 12) (v := .ref (ad 35)) (C := RX12) (T := TX12) (M := 59) (fs := (oM ad (σ.1 0))) hx hb hts (fun _ h9 => List.mem_cons_of_mem _ (List.mem_append_right _ h9)) hown hK hP 0 (Nat.le_of_ble_eq_true rfl) rfl rfl 52 (by decide) (hts (.fieldLink RX12 118 "SeatsRoundModel" "picked" "[I") (List.mem_of_getElem? (i := 4) rfl)) (fun _ h9 => h9) rfl dX12_choose_101 ?_
      refine lv_iload hx hb dX12_choose_104 (lv_at hl 3 rfl) ?_
      refine ux_iald hx hb hK hP 35 0 (Nat.le_of_ble_eq_true rfl) (cM_35 _ _ _ _) rfl h dX12_choose_106 (fun v3 h => ?_)
      change W _ _ _ _ _ _ _ _ _ _ _ _ _ _ _ (F0 m 107 ls [.int v3, .int (σ.1 0 55), .ref (ad 36)])
      refine ux_iast hx hb hK hP hD hS 36 0 (Nat.le_of_ble_eq_true rfl) (fun _ => (cM_36 _ _ _ _)) rfl h dX12_choose_107 (fun σ4 H locs h hP hD hS => ?_)
      refine lv_aload_n hx hb dX12_choose_108 rfl (lv_at hl 0 rfl) ?_
      refine lv_dup hx hb dX12_choose_109 rfl ?_
      refine ux_get (D := (dC, dI)) (ci := 12) (v := .int (σ4.1 0 55)) (C := RX12) (T := TX12) (M := 59) (fs := (oM ad (σ4.1 0))) hx hb hts (fun _ h9 => List.mem_cons_of_mem _ (List.mem_append_right _ h9)) hown hK hP 0 (Nat.le_of_ble_eq_true rfl) rfl rfl 55 (by decide) (hts (.fieldLink RX12 250 "SeatsRoundModel" "chosenMany" "I") (List.mem_of_getElem? (i := 1) rfl)) (fun _ h9 => h9) rfl dX12_choose_110 ?_
      refine lv_iconst (v := 1) hx hb dX12_choose_113 (by decide) ?_
      refine lv_iadd hx hb dX12_choose_114 ?_
      refine ux_put (D := (dC, dI)) (ci := 12) (C := RX12) (T := TX12) (M := 59) (fs := (oM ad (σ4.1 0))) hx hb hts (fun _ h9 => List.mem_cons_of_mem _ (List.mem_append_right _ h9)) tyX12 tyX12_ok nmX12 hown hK hP hD hS 0 (Nat.le_of_ble_eq_true rfl) rfl rfl 55 (by decide) (hts (.fieldLink RX12 250 "SeatsRoundModel" "chosenMany" "I") (List.mem_of_getElem? (i := 1) rfl)) (fun _ h9 => h9) rfl (tyX12_ok 55 (by decide)) rfl rfl (Nat.le_of_ble_eq_true rfl) (oM_set_55 _ _ _ _ _) h dX12_choose_115 (fun σ5 H locs h hP hD hS => ?_)
      refine lv_aload_n hx hb dX12_choose_118 rfl (lv_at hl 0 rfl) ?_
      refine lv_dup hx hb dX12_choose_119 rfl ?_
      refine ux_get (D := (dC, dI)) (ci := 12) (v := .int (σ5.1 0 55)) (C := RX12) (T := TX12) (M := 59) (fs := (oM ad (σ5.1 0))) hx hb hts (fun _ h9 => List.mem_cons_of_mem _ (List.mem_append_right _ h9)) hown hK hP 0 (Nat.le_of_ble_eq_true rfl) rfl rfl 55 (by decide) (hts (.fieldLink RX12 250 "SeatsRoundModel" "chosenMany" "I") (List.mem_of_getElem? (i := 1) rfl)) (fun _ h9 => h9) rfl dX12_choose_120 ?_
      refine lv_iload_n hx hb dX12_choose_123 rfl (lv_at hl 2 rfl) ?_
      refine lv_if_ne (tgt := 141) hx hb dX12_choose_124 (by decide) (fun hcd => ?_) (fun hcd => ?_)
      · have h := cdN hcd h
        exact w141 _ hk21 σ5 x1 x3 x4 (σ5.1 0 55) H locs ls h hP hD hS (lv_sub hl [0, 1, 2, 3] rfl)
      · have h := cdP hcd h
        refine lv_aload_n hx hb dX12_choose_127 rfl (lv_at hl 0 rfl) ?_
        refine lv_iload_n hx hb dX12_choose_128 rfl (lv_at hl 1 rfl) ?_
        obtain ⟨r6, hf7, h⟩ := biS h
        refine ux_calli (va_runV (As := [.int x1]) (rest := [.int (σ5.1 0 55), .ref (ad 0)]) ⟨hx, hb, hml, hown, hts⟩ (tX12_streetsOf l dC dI cy ad σ5 x1 H.size r6 hf7) (cwV 1 hts gX12_choose_X12_streetsOf rfl rfl rfl (by decide +kernel) ⟨Nat.le_of_ble_eq_true rfl, Nat.le_of_ble_eq_true rfl⟩) (wp_V hK hN hP hD (va_recv hK hP (ci := 12) (q0 := 0) rfl (wG_of (Nat.le_of_ble_eq_true rfl) rfl))) rfl rfl hl.1 rfl (lv_room (Nat.le_of_ble_eq_true rfl)) dX12_choose_129 ⟨Nat.le_of_ble_eq_true rfl, Nat.le_of_ble_eq_true rfl⟩) hD hS hA (fun H locs hP hD hS => ?_)
        refine lv_iload hx hb dX12_choose_132 (lv_at hl 4 rfl) ?_
        refine lv_icmp_ne (tgt := 141) hx hb dX12_choose_134 (by decide) (fun hcd => ?_) (fun hcd => ?_)
        · have h := cdN hcd h
          exact w141 _ hk21 σ5 x1 x3 x4 (σ5.1 0 55) H locs ls h hP hD hS (lv_sub hl [0, 1, 2, 3] rfl)
        · have h := cdP hcd h
          refine lv_iconst (v := 1) hx hb dX12_choose_137 (by decide) ?_
          refine lv_goto (tgt := 142) hx hb dX12_choose_138 (by decide) ?_
          exact w142 _ hk21 σ5 x1 x3 x4 1 (σ5.1 0 55) H locs ls h hP hD hS (lv_sub hl [0, 1, 2, 3] rfl)
  have w84 : ∀ (k21 : S2 → Int32 → Int32 → Int32 → Option (Unit × S2)) (hk21 : ∀ (σ : S2) (x1 : Int32) (x3 : Int32) (x4 : Int32) (H : Heap) (locs : List Loc) (ls : Array Slot), k21 σ x1 x3 x4 = some (r0, σ9) → va_P (dC, dI) vwCl (wG (cM cy ad) ad 40 σ) H → va_D A (wG (cM cy ad) ad 40 σ) → va_S A s.heap H locs → lv_has ls 7 [(0, .ref (ad 0)), (1, .int x1), (3, .int x3), (4, .int x4)] → W p l e (headSpec wsX12_choose ({ frames := 4, cells := 0, slots := 0, locals := 96 })).room s m (#[.ref (ad 0), .int a1, .int a2]) below meth c H locs 0 0 (MQ below (va_Qv (fun (_ : Unit) => True) (fun (_ : Unit) t => wAt (dC, dI) A (wG (cM cy ad) ad 40 σ9) t) A) (#[.ref (ad 0), .int a1, .int a2]) s 0 0 A) (F0 m 21 ls [])) , ∀ (σ : S2) (x1 : Int32) (x3 : Int32) (x4 : Int32) (x5 : Int32) (H : Heap) (locs : List Loc) (ls : Array Slot), fX12_choose_84 k21 σ x1 x3 x4 x5 = some (r0, σ9) → va_P (dC, dI) vwCl (wG (cM cy ad) ad 40 σ) H → va_D A (wG (cM cy ad) ad 40 σ) → va_S A s.heap H locs → lv_has ls 7 [(0, .ref (ad 0)), (1, .int x1), (3, .int x3), (4, .int x4), (5, .int x5)] → W p l e (headSpec wsX12_choose ({ frames := 4, cells := 0, slots := 0, locals := 96 })).room s m (#[.ref (ad 0), .int a1, .int a2]) below meth c H locs 0 0 (MQ below (va_Qv (fun (_ : Unit) => True) (fun (_ : Unit) t => wAt (dC, dI) A (wG (cM cy ad) ad 40 σ9) t) A) (#[.ref (ad 0), .int a1, .int a2]) s 0 0 A) (F0 m 84 ls []) := by
    intro k21 hk21 σ x1 x3 x4 x5 H locs ls h hP hD hS hl
    unfold fX12_choose_84 at h
    refine lv_iconst (v := 0) hx hb dX12_choose_84 (by decide) ?_
    exact w85 _ hk21 σ x1 x3 x4 x5 0 H locs ls h hP hD hS hl
  have w80 : ∀ (k21 : S2 → Int32 → Int32 → Int32 → Option (Unit × S2)) (hk21 : ∀ (σ : S2) (x1 : Int32) (x3 : Int32) (x4 : Int32) (H : Heap) (locs : List Loc) (ls : Array Slot), k21 σ x1 x3 x4 = some (r0, σ9) → va_P (dC, dI) vwCl (wG (cM cy ad) ad 40 σ) H → va_D A (wG (cM cy ad) ad 40 σ) → va_S A s.heap H locs → lv_has ls 7 [(0, .ref (ad 0)), (1, .int x1), (3, .int x3), (4, .int x4)] → W p l e (headSpec wsX12_choose ({ frames := 4, cells := 0, slots := 0, locals := 96 })).room s m (#[.ref (ad 0), .int a1, .int a2]) below meth c H locs 0 0 (MQ below (va_Qv (fun (_ : Unit) => True) (fun (_ : Unit) t => wAt (dC, dI) A (wG (cM cy ad) ad 40 σ9) t) A) (#[.ref (ad 0), .int a1, .int a2]) s 0 0 A) (F0 m 21 ls [])) , ∀ (σ : S2) (x1 : Int32) (x3 : Int32) (x4 : Int32) (x5 : Int32) (H : Heap) (locs : List Loc) (ls : Array Slot), fX12_choose_80 k21 σ x1 x3 x4 x5 = some (r0, σ9) → va_P (dC, dI) vwCl (wG (cM cy ad) ad 40 σ) H → va_D A (wG (cM cy ad) ad 40 σ) → va_S A s.heap H locs → lv_has ls 7 [(0, .ref (ad 0)), (1, .int x1), (3, .int x3), (4, .int x4), (5, .int x5)] → W p l e (headSpec wsX12_choose ({ frames := 4, cells := 0, slots := 0, locals := 96 })).room s m (#[.ref (ad 0), .int a1, .int a2]) below meth c H locs 0 0 (MQ below (va_Qv (fun (_ : Unit) => True) (fun (_ : Unit) t => wAt (dC, dI) A (wG (cM cy ad) ad 40 σ9) t) A) (#[.ref (ad 0), .int a1, .int a2]) s 0 0 A) (F0 m 80 ls []) := by
    intro k21 hk21 σ x1 x3 x4 x5 H locs ls h hP hD hS hl
    unfold fX12_choose_80 at h
    refine lv_iconst (v := 1) hx hb dX12_choose_80 (by decide) ?_
    refine lv_goto (tgt := 85) hx hb dX12_choose_81 (by decide) ?_
    exact w85 _ hk21 σ x1 x3 x4 x5 1 H locs ls h hP hD hS hl
  have w21 : ∀ (k13 : S2 → Int32 → Int32 → Option (Unit × S2)) (hk13 : ∀ (σ : S2) (x1 : Int32) (x3 : Int32) (H : Heap) (locs : List Loc) (ls : Array Slot), k13 σ x1 x3 = some (r0, σ9) → va_P (dC, dI) vwCl (wG (cM cy ad) ad 40 σ) H → va_D A (wG (cM cy ad) ad 40 σ) → va_S A s.heap H locs → lv_has ls 7 [(0, .ref (ad 0)), (1, .int x1), (3, .int x3)] → W p l e (headSpec wsX12_choose ({ frames := 4, cells := 0, slots := 0, locals := 96 })).room s m (#[.ref (ad 0), .int a1, .int a2]) below meth c H locs 0 0 (MQ below (va_Qv (fun (_ : Unit) => True) (fun (_ : Unit) t => wAt (dC, dI) A (wG (cM cy ad) ad 40 σ9) t) A) (#[.ref (ad 0), .int a1, .int a2]) s 0 0 A) (F0 m 13 ls [])) (n : Nat), ∀ (σ : S2) (x1 : Int32) (x3 : Int32) (x4 : Int32) (H : Heap) (locs : List Loc) (ls : Array Slot), fX12_choose_21 k13 n σ x1 x3 x4 = some (r0, σ9) → va_P (dC, dI) vwCl (wG (cM cy ad) ad 40 σ) H → va_D A (wG (cM cy ad) ad 40 σ) → va_S A s.heap H locs → lv_has ls 7 [(0, .ref (ad 0)), (1, .int x1), (3, .int x3), (4, .int x4)] → W p l e (headSpec wsX12_choose ({ frames := 4, cells := 0, slots := 0, locals := 96 })).room s m (#[.ref (ad 0), .int a1, .int a2]) below meth c H locs 0 0 (MQ below (va_Qv (fun (_ : Unit) => True) (fun (_ : Unit) t => wAt (dC, dI) A (wG (cM cy ad) ad 40 σ9) t) A) (#[.ref (ad 0), .int a1, .int a2]) s 0 0 A) (F0 m 21 ls []) := by
    intro k13 hk13 n
    induction n with
    | zero => intro σ x1 x3 x4 H locs ls h; cases h
    | succ n ih =>
    intro σ x1 x3 x4 H locs ls h hP hD hS hl
    unfold fX12_choose_21 at h
    refine lv_iload hx hb dX12_choose_21 (lv_at hl 3 rfl) ?_
    refine lv_aload_n hx hb dX12_choose_23 rfl (lv_at hl 0 rfl) ?_
    refine ux_get (D := (dC, dI)) (ci := 12) (v := .int (σ.1 0 53)) (C := RX12) (T := TX12) (M := 59) (fs := (oM ad (σ.1 0))) hx hb hts (fun _ h9 => List.mem_cons_of_mem _ (List.mem_append_right _ h9)) hown hK hP 0 (Nat.le_of_ble_eq_true rfl) rfl rfl 53 (by decide) (hts (.fieldLink RX12 240 "SeatsRoundModel" "pickedMany" "I") (List.mem_of_getElem? (i := 2) rfl)) (fun _ h9 => h9) rfl dX12_choose_24 ?_
    refine lv_icmp_ge (tgt := 152) hx hb dX12_choose_27 (by decide) (fun hcd => ?_) (fun hcd => ?_)
    · have h := cdP hcd h
      obtain ⟨v8, ev8⟩ : ∃ y : Int32, y = x3 + 1 := ⟨_, rfl⟩
      have h := nmS h ev8
      refine lv_iinc (v := v8) (lv' := [(3, .int v8), (0, .ref (ad 0)), (1, .int x1), (4, .int x4)]) hx hb dX12_choose_152 hl (k := 2) rfl (by rw [ev8]; rfl) (by decide) rfl (fun ls hl => ?_)
      have hl := lv_sub hl [1, 2, 0, 3] (l' := [(0, .ref (ad 0)), (1, .int x1), (3, .int v8), (4, .int x4)]) rfl
      refine lv_goto (tgt := 13) hx hb dX12_choose_155 (by decide) ?_
      exact hk13 σ x1 v8 H locs ls h hP hD hS (lv_sub hl [0, 1, 2] rfl)
    · have h := cdN hcd h
      refine lv_aload_n hx hb dX12_choose_30 rfl (lv_at hl 0 rfl) ?_
      refine lv_iload_n hx hb dX12_choose_31 rfl (lv_at hl 1 rfl) ?_
      obtain ⟨r9, hf10, h⟩ := biS h
      refine ux_calli (va_runV (As := [.int x1]) (rest := []) ⟨hx, hb, hml, hown, hts⟩ (tX12_streetsOf l dC dI cy ad σ x1 H.size r9 hf10) (cwV 1 hts gX12_choose_X12_streetsOf rfl rfl rfl (by decide +kernel) ⟨Nat.le_of_ble_eq_true rfl, Nat.le_of_ble_eq_true rfl⟩) (wp_V hK hN hP hD (va_recv hK hP (ci := 12) (q0 := 0) rfl (wG_of (Nat.le_of_ble_eq_true rfl) rfl))) rfl rfl hl.1 rfl (lv_room (Nat.le_of_ble_eq_true rfl)) dX12_choose_32 ⟨Nat.le_of_ble_eq_true rfl, Nat.le_of_ble_eq_true rfl⟩) hD hS hA (fun H locs hP hD hS => ?_)
      refine lv_istore (lv' := [(5, .int r9), (0, .ref (ad 0)), (1, .int x1), (3, .int x3), (4, .int x4)]) hx hb dX12_choose_35 hl (by decide) rfl (fun ls hl => ?_)
      have hl := lv_sub hl [1, 2, 3, 4, 0] (l' := [(0, .ref (ad 0)), (1, .int x1), (3, .int x3), (4, .int x4), (5, .int r9)]) rfl
      refine lv_aload_n hx hb dX12_choose_37 rfl (lv_at hl 0 rfl) ?_
      refine ux_get (D := (dC, dI)) (ci := 12) (v := .int (σ.1 0 55)) (C := RX12) (T := TX12) (M := 59) (fs := (oM ad (σ.1 0))) hx hb hts (fun _ h9 => List.mem_cons_of_mem _ (List.mem_append_right _ h9)) hown hK hP 0 (Nat.le_of_ble_eq_true rfl) rfl rfl 55 (by decide) (hts (.fieldLink RX12 250 "SeatsRoundModel" "chosenMany" "I") (List.mem_of_getElem? (i := 1) rfl)) (fun _ h9 => h9) rfl dX12_choose_38 ?_
      refine lv_aload_n hx hb dX12_choose_41 rfl (lv_at hl 0 rfl) ?_
      refine ux_get (D := (dC, dI)) (ci := 12) (v := .ref (ad 10)) (C := RX12) (T := TX12) (M := 59) (fs := (oM ad (σ.1 0))) hx hb hts (fun _ h9 => List.mem_cons_of_mem _ (List.mem_append_right _ h9)) hown hK hP 0 (Nat.le_of_ble_eq_true rfl) rfl rfl 12 (by decide) (hts (.fieldLink RX12 38 "SeatsRoundModel" "copies" "[I") (List.mem_of_getElem? (i := 3) rfl)) (fun _ h9 => h9) rfl dX12_choose_42 ?_
      refine lv_iload_n hx hb dX12_choose_45 rfl (lv_at hl 1 rfl) ?_
      refine ux_iald hx hb hK hP 10 0 (Nat.le_of_ble_eq_true rfl) (cM_10 _ _ _ _) rfl h dX12_choose_46 (fun v11 h => ?_)
      refine lv_icmp_ge (tgt := 84) hx hb dX12_choose_47 (by decide) (fun hcd => ?_) (fun hcd => ?_)
      · have h := cdP hcd h
        exact w84 _ ih σ x1 x3 x4 r9 H locs ls h hP hD hS hl
      · have h := cdN hcd h
        refine lv_aload_n hx hb dX12_choose_50 rfl (lv_at hl 0 rfl) ?_
        refine lv_aload_n hx hb dX12_choose_51 rfl (lv_at hl 0 rfl) ?_
        refine ux_get (D := (dC, dI)) (ci := 12) (v := .ref (ad 35)) (C := RX12) (T := TX12) (M := 59) (fs := (oM ad (σ.1 0))) hx hb hts (fun _ h9 => List.mem_cons_of_mem _ (List.mem_append_right _ h9)) hown hK hP 0 (Nat.le_of_ble_eq_true rfl) rfl rfl 52 (by decide) (hts (.fieldLink RX12 118 "SeatsRoundModel" "picked" "[I") (List.mem_of_getElem? (i := 4) rfl)) (fun _ h9 => h9) rfl dX12_choose_52 ?_
        refine lv_iload hx hb dX12_choose_55 (lv_at hl 3 rfl) ?_
        refine ux_iald hx hb hK hP 35 0 (Nat.le_of_ble_eq_true rfl) (cM_35 _ _ _ _) rfl h dX12_choose_57 (fun v12 h => ?_)
        obtain ⟨r13, hf14, h⟩ := biS h
        refine ux_calli (va_runV (As := [.int v12]) (rest := []) ⟨hx, hb, hml, hown, hts⟩ (tX12_isChosen l dC dI cy ad σ v12 H.size r13 hf14) (cwV 1 hts gX12_choose_X12_isChosen rfl rfl rfl (by decide +kernel) ⟨Nat.le_of_ble_eq_true rfl, Nat.le_of_ble_eq_true rfl⟩) (wp_V hK hN hP hD (va_recv hK hP (ci := 12) (q0 := 0) rfl (wG_of (Nat.le_of_ble_eq_true rfl) rfl))) rfl rfl hl.1 rfl (lv_room (Nat.le_of_ble_eq_true rfl)) dX12_choose_58 ⟨Nat.le_of_ble_eq_true rfl, Nat.le_of_ble_eq_true rfl⟩) hD hS hA (fun H locs hP hD hS => ?_)
        refine lv_if_ne (tgt := 84) hx hb dX12_choose_61 (by decide) (fun hcd => ?_) (fun hcd => ?_)
        · have h := cdN hcd h
          exact w84 _ ih σ x1 x3 x4 r9 H locs ls h hP hD hS hl
        · have h := cdP hcd h
          refine lv_iload_n hx hb dX12_choose_64 rfl (lv_at hl 2 rfl) ?_
          refine lv_iconst (v := 1) hx hb dX12_choose_65 (by decide) ?_
          refine lv_icmp_eq (tgt := 80) hx hb dX12_choose_66 (by decide) (fun hcd => ?_) (fun hcd => ?_)
          · have h := cdP hcd h
            exact w80 _ ih σ x1 x3 x4 r9 H locs ls h hP hD hS hl
          · have h := cdN hcd h
            refine lv_iload hx hb dX12_choose_69 (lv_at hl 4 rfl) ?_
            refine lv_aload_n hx hb dX12_choose_71 rfl (lv_at hl 0 rfl) ?_
            refine ux_get (D := (dC, dI)) (ci := 12) (v := .ref (ad 11)) (C := RX12) (T := TX12) (M := 59) (fs := (oM ad (σ.1 0))) hx hb hts (fun _ h9 => List.mem_cons_of_mem _ (List.mem_append_right _ h9)) hown hK hP 0 (Nat.le_of_ble_eq_true rfl) rfl rfl 13 (by decide) (hts (.fieldLink RX12 41 "SeatsRoundModel" "streets" "[I") (List.mem_of_getElem? (i := 5) rfl)) (fun _ h9 => h9) rfl dX12_choose_72 ?_
            refine lv_iload_n hx hb dX12_choose_75 rfl (lv_at hl 1 rfl) ?_
            refine ux_iald hx hb hK hP 11 0 (Nat.le_of_ble_eq_true rfl) (cM_11 _ _ _ _) rfl h dX12_choose_76 (fun v15 h => ?_)
            refine lv_icmp_ge (tgt := 84) hx hb dX12_choose_77 (by decide) (fun hcd => ?_) (fun hcd => ?_)
            · have h := cdP hcd h
              exact w84 _ ih σ x1 x3 x4 r9 H locs ls h hP hD hS hl
            · have h := cdN hcd h
              exact w80 _ ih σ x1 x3 x4 r9 H locs ls h hP hD hS hl
  have w13 : ∀ (n : Nat), ∀ (σ : S2) (x1 : Int32) (x3 : Int32) (H : Heap) (locs : List Loc) (ls : Array Slot), fX12_choose_13 n σ x1 x3 = some (r0, σ9) → va_P (dC, dI) vwCl (wG (cM cy ad) ad 40 σ) H → va_D A (wG (cM cy ad) ad 40 σ) → va_S A s.heap H locs → lv_has ls 7 [(0, .ref (ad 0)), (1, .int x1), (3, .int x3)] → W p l e (headSpec wsX12_choose ({ frames := 4, cells := 0, slots := 0, locals := 96 })).room s m (#[.ref (ad 0), .int a1, .int a2]) below meth c H locs 0 0 (MQ below (va_Qv (fun (_ : Unit) => True) (fun (_ : Unit) t => wAt (dC, dI) A (wG (cM cy ad) ad 40 σ9) t) A) (#[.ref (ad 0), .int a1, .int a2]) s 0 0 A) (F0 m 13 ls []) := by
    intro n
    induction n with
    | zero => intro σ x1 x3 H locs ls h; cases h
    | succ n ih =>
    intro σ x1 x3 H locs ls h hP hD hS hl
    unfold fX12_choose_13 at h
    refine lv_iload_n hx hb dX12_choose_13 rfl (lv_at hl 2 rfl) ?_
    refine lv_iconst (v := 2) hx hb dX12_choose_14 (by decide) ?_
    refine lv_icmp_ge (tgt := 158) hx hb dX12_choose_15 (by decide) (fun hcd => ?_) (fun hcd => ?_)
    · have h := cdP hcd h
      exact ux_vret hx hb hr h hP hD hS hlocks dX12_choose_158
    · have h := cdN hcd h
      refine lv_iconst (v := 0) hx hb dX12_choose_18 (by decide) ?_
      refine lv_istore (lv' := [(4, .int 0), (0, .ref (ad 0)), (1, .int x1), (3, .int x3)]) hx hb dX12_choose_19 hl (by decide) rfl (fun ls hl => ?_)
      have hl := lv_sub hl [1, 2, 3, 0] (l' := [(0, .ref (ad 0)), (1, .int x1), (3, .int x3), (4, .int 0)]) rfl
      exact w21 _ ih FU σ x1 x3 0 H locs ls h hP hD hS hl
  have w0 : ∀ (σ : S2) (x1 : Int32) (x2 : Int32) (H : Heap) (locs : List Loc) (ls : Array Slot), fX12_choose_0 σ x1 x2 = some (r0, σ9) → va_P (dC, dI) vwCl (wG (cM cy ad) ad 40 σ) H → va_D A (wG (cM cy ad) ad 40 σ) → va_S A s.heap H locs → lv_has ls 7 [(0, .ref (ad 0)), (1, .int x1), (2, .int x2)] → W p l e (headSpec wsX12_choose ({ frames := 4, cells := 0, slots := 0, locals := 96 })).room s m (#[.ref (ad 0), .int a1, .int a2]) below meth c H locs 0 0 (MQ below (va_Qv (fun (_ : Unit) => True) (fun (_ : Unit) t => wAt (dC, dI) A (wG (cM cy ad) ad 40 σ9) t) A) (#[.ref (ad 0), .int a1, .int a2]) s 0 0 A) (F0 m 0 ls []) := by
    intro σ x1 x2 H locs ls h hP hD hS hl
    unfold fX12_choose_0 at h
    refine lv_aload_n hx hb dX12_choose_0 rfl (lv_at hl 0 rfl) ?_
    refine lv_iload_n hx hb dX12_choose_1 rfl (lv_at hl 1 rfl) ?_
    refine lv_iload_n hx hb dX12_choose_2 rfl (lv_at hl 2 rfl) ?_
    obtain ⟨r16, σ17, hf18, h⟩ := bsS h
    refine ux_callv (va_runV (As := [.int x1, .int x2]) (rest := []) ⟨hx, hb, hml, hown, hts⟩ (tX12_pick l dC dI cy ad σ x1 x2 H.size r16 σ17 hf18) (cwV 2 hts gX12_choose_X12_pick rfl rfl rfl (by decide +kernel) ⟨Nat.le_of_ble_eq_true rfl, Nat.le_of_ble_eq_true rfl⟩) (wp_V hK hN hP hD (va_recv hK hP (ci := 12) (q0 := 0) rfl (wG_of (Nat.le_of_ble_eq_true rfl) rfl))) rfl rfl hl.1 rfl (lv_room (Nat.le_of_ble_eq_true rfl)) dX12_choose_3 ⟨Nat.le_of_ble_eq_true rfl, Nat.le_of_ble_eq_true rfl⟩) hD hS hA (fun H locs hP hD hS => ?_)
    refine lv_aload_n hx hb dX12_choose_6 rfl (lv_at hl 0 rfl) ?_
    refine lv_iconst (v := 0) hx hb dX12_choose_7 (by decide) ?_
    refine ux_put (D := (dC, dI)) (ci := 12) (C := RX12) (T := TX12) (M := 59) (fs := (oM ad (σ17.1 0))) hx hb hts (fun _ h9 => List.mem_cons_of_mem _ (List.mem_append_right _ h9)) tyX12 tyX12_ok nmX12 hown hK hP hD hS 0 (Nat.le_of_ble_eq_true rfl) rfl rfl 55 (by decide) (hts (.fieldLink RX12 250 "SeatsRoundModel" "chosenMany" "I") (List.mem_of_getElem? (i := 1) rfl)) (fun _ h9 => h9) rfl (tyX12_ok 55 (by decide)) rfl rfl (Nat.le_of_ble_eq_true rfl) (oM_set_55 _ _ _ _ _) h dX12_choose_8 (fun σ19 H locs h hP hD hS => ?_)
    refine lv_iconst (v := 0) hx hb dX12_choose_11 (by decide) ?_
    refine lv_istore_n (lv' := [(3, .int 0), (0, .ref (ad 0)), (1, .int x1), (2, .int x2)]) hx hb dX12_choose_12 rfl hl (by decide) rfl (fun ls hl => ?_)
    have hl := lv_sub hl [1, 2, 3, 0] (l' := [(0, .ref (ad 0)), (1, .int x1), (2, .int x2), (3, .int 0)]) rfl
    exact w13 FU σ19 x1 0 H locs ls h hP hD hS (lv_sub hl [0, 1, 3] rfl)
  intro H locs ls h hP hD hS hl
  exact w0 σ a1 a2 H locs ls h hP hD hS (lv_sub hl [0, 1, 2] rfl)

set_option maxHeartbeats 4000000 in
set_option maxRecDepth 100000 in
theorem tX12_chooseName (l : Launch) (dC : Nat → ClassId) (dI : Nat → Nat → Nat) (cy : Nat → ClassId) (ad : Nat → Nat) (σ : S2) (a1 : Int32) (a2 : Int32) (sz : Nat) (r0 : Unit) (σ9 : S2) (h : fX12_chooseName σ a1 a2 = some (r0, σ9)) : Met l yX12_chooseName wsX12_chooseName ({ frames := 5, cells := 0, slots := 0, locals := 122 }) (va_Pc [.ref (ad 0), .int a1, .int a2] (wPre (dC, dI) cy (wG (cM cy ad) ad 40 σ) sz)) (va_Qv (fun (_ : Unit) => True) (fun (_ : Unit) t => wAt (dC, dI) (va_A (wG (cM cy ad) ad 40 σ) sz) (wG (cM cy ad) ad 40 σ9) t) (va_A (wG (cM cy ad) ad 40 σ) sz)) 0 0 (va_A (wG (cM cy ad) ad 40 σ) sz) := by
  refine Met.ofW (cc := cX12_chooseName) (maxL := 3) (ret := none) (by decide) rfl ?_
  intro p e s m args below meth c s₁ B hml hv
  obtain ⟨rfl, hsz, hP, hK, hD0, hN⟩ := hv
  have hx := B.exec
  have hb := B.bytes
  have hr := B.returns
  have hts := atoms_spec (ws := wsX12_chooseName) B.pre
  have hown : s.vm.findClass RX12 = some m.cls := findClass_of_methodNamed B.named
  have hlocks := B.notSynchronized
  subst hsz
  have hD := hD0.self (sz := s.heap.size)
  generalize hAe : va_A (wG (cM cy ad) ad 40 σ) s.heap.size = A at hD ⊢
  have hA : ∀ q : Nat, s.heap.size ≤ q → A q := fun q h => by rw [← hAe]; exact Or.inr h
  have hS : va_S A s.heap s.heap [] := va_S.rf
  have hl := lv_entry ([.ref (ad 0), .int a1, .int a2]) (n := 3) (Nat.le_of_ble_eq_true rfl)
  rw [lg_entry_eq]
  generalize (lg_sl ([.ref (ad 0), .int a1, .int a2]) ++ List.replicate (3 - (lg_sl ([.ref (ad 0), .int a1, .int a2])).length) Slot.unset).toArray = ls at hl ⊢
  have hl : lv_has ls 3 [(0, .ref (ad 0)), (1, .int a1), (2, .int a2)] := hl
  unfold fX12_chooseName at h
  clear hAe hD0
  suffices HH : ∀ (H : Heap) (locs : List Loc) (ls : Array Slot), fX12_chooseName_0 σ a1 a2 = some (r0, σ9) → va_P (dC, dI) vwCl (wG (cM cy ad) ad 40 σ) H → va_D A (wG (cM cy ad) ad 40 σ) → va_S A s.heap H locs → lv_has ls 3 [(0, .ref (ad 0)), (1, .int a1), (2, .int a2)] → W p l e (headSpec wsX12_chooseName ({ frames := 5, cells := 0, slots := 0, locals := 122 })).room s m (#[.ref (ad 0), .int a1, .int a2]) below meth c H locs 0 0 (MQ below (va_Qv (fun (_ : Unit) => True) (fun (_ : Unit) t => wAt (dC, dI) A (wG (cM cy ad) ad 40 σ9) t) A) (#[.ref (ad 0), .int a1, .int a2]) s 0 0 A) (F0 m 0 ls []) from HH s.heap [] ls h hP hD hS hl
  have w0 : ∀ (σ : S2) (x1 : Int32) (x2 : Int32) (H : Heap) (locs : List Loc) (ls : Array Slot), fX12_chooseName_0 σ x1 x2 = some (r0, σ9) → va_P (dC, dI) vwCl (wG (cM cy ad) ad 40 σ) H → va_D A (wG (cM cy ad) ad 40 σ) → va_S A s.heap H locs → lv_has ls 3 [(0, .ref (ad 0)), (1, .int x1), (2, .int x2)] → W p l e (headSpec wsX12_chooseName ({ frames := 5, cells := 0, slots := 0, locals := 122 })).room s m (#[.ref (ad 0), .int a1, .int a2]) below meth c H locs 0 0 (MQ below (va_Qv (fun (_ : Unit) => True) (fun (_ : Unit) t => wAt (dC, dI) A (wG (cM cy ad) ad 40 σ9) t) A) (#[.ref (ad 0), .int a1, .int a2]) s 0 0 A) (F0 m 0 ls []) := by
    intro σ x1 x2 H locs ls h hP hD hS hl
    unfold fX12_chooseName_0 at h
    refine lv_aload_n hx hb dX12_chooseName_0 rfl (lv_at hl 0 rfl) ?_
    refine lv_iload_n hx hb dX12_chooseName_1 rfl (lv_at hl 1 rfl) ?_
    refine lv_aload_n hx hb dX12_chooseName_2 rfl (lv_at hl 0 rfl) ?_
    refine lv_iload_n hx hb dX12_chooseName_3 rfl (lv_at hl 2 rfl) ?_
    refine lv_aload_n hx hb dX12_chooseName_4 rfl (lv_at hl 0 rfl) ?_
    refine ux_get (D := (dC, dI)) (ci := 12) (v := .ref (ad 9)) (C := RX12) (T := TX12) (M := 59) (fs := (oM ad (σ.1 0))) hx hb hts (fun _ h9 => List.mem_cons_of_mem _ (List.mem_append_right _ h9)) hown hK hP 0 (Nat.le_of_ble_eq_true rfl) rfl rfl 11 (by decide) (hts (.fieldLink RX12 35 "SeatsRoundModel" "tableZ" "[I") (List.mem_of_getElem? (i := 1) rfl)) (fun _ h9 => h9) rfl dX12_chooseName_5 ?_
    refine lv_iload_n hx hb dX12_chooseName_8 rfl (lv_at hl 1 rfl) ?_
    refine ux_iald hx hb hK hP 9 0 (Nat.le_of_ble_eq_true rfl) (cM_9 _ _ _ _) rfl h dX12_chooseName_9 (fun v1 h => ?_)
    change W _ _ _ _ _ _ _ _ _ _ _ _ _ _ _ (F0 m 10 ls [.int v1, .int x2, .ref (ad 0), .int x1, .ref (ad 0)])
    obtain ⟨r2, hf3, h⟩ := biS h
    refine ux_calli (va_runV (As := [.int x2, .int v1]) (rest := [.int x1, .ref (ad 0)]) ⟨hx, hb, hml, hown, hts⟩ (tX12_numberOf l dC dI cy ad σ x2 v1 H.size r2 hf3) (cwV 2 hts gX12_chooseName_X12_numberOf rfl rfl rfl (by decide +kernel) ⟨Nat.le_of_ble_eq_true rfl, Nat.le_of_ble_eq_true rfl⟩) (wp_V hK hN hP hD (va_recv hK hP (ci := 12) (q0 := 0) rfl (wG_of (Nat.le_of_ble_eq_true rfl) rfl))) rfl rfl hl.1 rfl (lv_room (Nat.le_of_ble_eq_true rfl)) dX12_chooseName_10 ⟨Nat.le_of_ble_eq_true rfl, Nat.le_of_ble_eq_true rfl⟩) hD hS hA (fun H locs hP hD hS => ?_)
    obtain ⟨r4, σ5, hf6, h⟩ := bsS h
    refine ux_callv (va_runV (As := [.int x1, .int r2]) (rest := []) ⟨hx, hb, hml, hown, hts⟩ (tX12_choose l dC dI cy ad σ x1 r2 H.size r4 σ5 hf6) (cwV 2 hts gX12_chooseName_X12_choose rfl rfl rfl (by decide +kernel) ⟨Nat.le_of_ble_eq_true rfl, Nat.le_of_ble_eq_true rfl⟩) (wp_V hK hN hP hD (va_recv hK hP (ci := 12) (q0 := 0) rfl (wG_of (Nat.le_of_ble_eq_true rfl) rfl))) rfl rfl hl.1 rfl (lv_room (Nat.le_of_ble_eq_true rfl)) dX12_chooseName_13 ⟨Nat.le_of_ble_eq_true rfl, Nat.le_of_ble_eq_true rfl⟩) hD hS hA (fun H locs hP hD hS => ?_)
    exact ux_vret hx hb hr h hP hD hS hlocks dX12_chooseName_16
  intro H locs ls h hP hD hS hl
  exact w0 σ a1 a2 H locs ls h hP hD hS (lv_sub hl [0, 1, 2] rfl)

set_option maxHeartbeats 4000000 in
set_option maxRecDepth 100000 in
theorem tX12_bits (l : Launch) (dC : Nat → ClassId) (dI : Nat → Nat → Nat) (cy : Nat → ClassId) (ad : Nat → Nat) (σ : S2)  (sz : Nat) (r0 : Int32) (h : fX12_bits σ = some r0) : Met l yX12_bits wsX12_bits ({ frames := 1, cells := 0, slots := 0, locals := 23 }) (va_Pc [.ref (ad 0)] (wPre (dC, dI) cy (wG (cM cy ad) ad 40 σ) sz)) (va_Qi (fun (r : Int32) (_ : Unit) => r = r0) (fun (_ : Unit) t => wAt (dC, dI) (va_A (wG (cM cy ad) ad 40 σ) sz) (wG (cM cy ad) ad 40 σ) t) (va_A (wG (cM cy ad) ad 40 σ) sz)) 0 0 (va_A (wG (cM cy ad) ad 40 σ) sz) := by
  refine Met.ofW (cc := cX12_bits) (maxL := 3) (ret := (some .int)) (by decide) rfl ?_
  intro p e s m args below meth c s₁ B hml hv
  obtain ⟨rfl, hsz, hP, hK, hD0, hN⟩ := hv
  have hx := B.exec
  have hb := B.bytes
  have hr := B.returns
  have hts := atoms_spec (ws := wsX12_bits) B.pre
  have hown : s.vm.findClass RX12 = some m.cls := findClass_of_methodNamed B.named
  have hlocks := B.notSynchronized
  subst hsz
  have hD := hD0.self (sz := s.heap.size)
  generalize hAe : va_A (wG (cM cy ad) ad 40 σ) s.heap.size = A at hD ⊢
  have hA : ∀ q : Nat, s.heap.size ≤ q → A q := fun q h => by rw [← hAe]; exact Or.inr h
  have hS : va_S A s.heap s.heap [] := va_S.rf
  have hl := lv_entry ([.ref (ad 0)]) (n := 3) (Nat.le_of_ble_eq_true rfl)
  rw [lg_entry_eq]
  generalize (lg_sl ([.ref (ad 0)]) ++ List.replicate (3 - (lg_sl ([.ref (ad 0)])).length) Slot.unset).toArray = ls at hl ⊢
  have hl : lv_has ls 3 [(0, .ref (ad 0))] := hl
  unfold fX12_bits at h
  clear hAe hD0
  suffices HH : ∀ (H : Heap) (locs : List Loc) (ls : Array Slot), fX12_bits_0 σ = some r0 → va_P (dC, dI) vwCl (wG (cM cy ad) ad 40 σ) H → va_D A (wG (cM cy ad) ad 40 σ) → va_S A s.heap H locs → lv_has ls 3 [(0, .ref (ad 0))] → W p l e (headSpec wsX12_bits ({ frames := 1, cells := 0, slots := 0, locals := 23 })).room s m (#[.ref (ad 0)]) below meth c H locs 0 0 (MQ below (va_Qi (fun (r : Int32) (_ : Unit) => r = r0) (fun (_ : Unit) t => wAt (dC, dI) A (wG (cM cy ad) ad 40 σ) t) A) (#[.ref (ad 0)]) s 0 0 A) (F0 m 0 ls []) from HH s.heap [] ls h hP hD hS hl
  have w4 : ∀ (n : Nat), ∀ (σ : S2) (x1 : Int32) (x2 : Int32) (H : Heap) (locs : List Loc) (ls : Array Slot), fX12_bits_4 n σ x1 x2 = some r0 → va_P (dC, dI) vwCl (wG (cM cy ad) ad 40 σ) H → va_D A (wG (cM cy ad) ad 40 σ) → va_S A s.heap H locs → lv_has ls 3 [(0, .ref (ad 0)), (1, .int x1), (2, .int x2)] → W p l e (headSpec wsX12_bits ({ frames := 1, cells := 0, slots := 0, locals := 23 })).room s m (#[.ref (ad 0)]) below meth c H locs 0 0 (MQ below (va_Qi (fun (r : Int32) (_ : Unit) => r = r0) (fun (_ : Unit) t => wAt (dC, dI) A (wG (cM cy ad) ad 40 σ) t) A) (#[.ref (ad 0)]) s 0 0 A) (F0 m 4 ls []) := by
    intro n
    induction n with
    | zero => intro σ x1 x2 H locs ls h; cases h
    | succ n ih =>
    intro σ x1 x2 H locs ls h hP hD hS hl
    unfold fX12_bits_4 at h
    refine lv_iload_n hx hb dX12_bits_4 rfl (lv_at hl 2 rfl) ?_
    refine lv_aload_n hx hb dX12_bits_5 rfl (lv_at hl 0 rfl) ?_
    refine ux_get (D := (dC, dI)) (ci := 12) (v := .int (σ.1 0 55)) (C := RX12) (T := TX12) (M := 59) (fs := (oM ad (σ.1 0))) hx hb hts (fun _ h9 => List.mem_cons_of_mem _ (List.mem_append_right _ h9)) hown hK hP 0 (Nat.le_of_ble_eq_true rfl) rfl rfl 55 (by decide) (hts (.fieldLink RX12 250 "SeatsRoundModel" "chosenMany" "I") (List.mem_of_getElem? (i := 1) rfl)) (fun _ h9 => h9) rfl dX12_bits_6 ?_
    refine lv_icmp_ge (tgt := 29) hx hb dX12_bits_9 (by decide) (fun hcd => ?_) (fun hcd => ?_)
    · have h := cdP hcd h
      refine lv_iload_n hx hb dX12_bits_29 rfl (lv_at hl 1 rfl) ?_
      exact ux_iretP hx hb hr h hP hD hS hlocks dX12_bits_30
    · have h := cdN hcd h
      refine lv_iload_n hx hb dX12_bits_12 rfl (lv_at hl 1 rfl) ?_
      refine lv_iconst (v := 1) hx hb dX12_bits_13 (by decide) ?_
      refine lv_aload_n hx hb dX12_bits_14 rfl (lv_at hl 0 rfl) ?_
      refine ux_get (D := (dC, dI)) (ci := 12) (v := .ref (ad 36)) (C := RX12) (T := TX12) (M := 59) (fs := (oM ad (σ.1 0))) hx hb hts (fun _ h9 => List.mem_cons_of_mem _ (List.mem_append_right _ h9)) hown hK hP 0 (Nat.le_of_ble_eq_true rfl) rfl rfl 54 (by decide) (hts (.fieldLink RX12 121 "SeatsRoundModel" "chosen" "[I") (List.mem_of_getElem? (i := 2) rfl)) (fun _ h9 => h9) rfl dX12_bits_15 ?_
      refine lv_iload_n hx hb dX12_bits_18 rfl (lv_at hl 2 rfl) ?_
      refine ux_iald hx hb hK hP 36 0 (Nat.le_of_ble_eq_true rfl) (cM_36 _ _ _ _) rfl h dX12_bits_19 (fun v1 h => ?_)
      refine lv_ishl hx hb dX12_bits_20 ?_
      refine lv_ior hx hb dX12_bits_21 ?_
      refine lv_topi (fun v2 ev2 => ?_)
      have h := nmS h ev2
      refine lv_istore_n (lv' := [(1, .int v2), (0, .ref (ad 0)), (2, .int x2)]) hx hb dX12_bits_22 rfl hl (by decide) rfl (fun ls hl => ?_)
      have hl := lv_sub hl [1, 0, 2] (l' := [(0, .ref (ad 0)), (1, .int v2), (2, .int x2)]) rfl
      obtain ⟨v3, ev3⟩ : ∃ y : Int32, y = x2 + 1 := ⟨_, rfl⟩
      have h := nmS h ev3
      refine lv_iinc (v := v3) (lv' := [(2, .int v3), (0, .ref (ad 0)), (1, .int v2)]) hx hb dX12_bits_23 hl (k := 2) rfl (by rw [ev3]; rfl) (by decide) rfl (fun ls hl => ?_)
      have hl := lv_sub hl [1, 2, 0] (l' := [(0, .ref (ad 0)), (1, .int v2), (2, .int v3)]) rfl
      refine lv_goto (tgt := 4) hx hb dX12_bits_26 (by decide) ?_
      exact ih σ v2 v3 H locs ls h hP hD hS hl
  have w0 : ∀ (σ : S2)  (H : Heap) (locs : List Loc) (ls : Array Slot), fX12_bits_0 σ = some r0 → va_P (dC, dI) vwCl (wG (cM cy ad) ad 40 σ) H → va_D A (wG (cM cy ad) ad 40 σ) → va_S A s.heap H locs → lv_has ls 3 [(0, .ref (ad 0))] → W p l e (headSpec wsX12_bits ({ frames := 1, cells := 0, slots := 0, locals := 23 })).room s m (#[.ref (ad 0)]) below meth c H locs 0 0 (MQ below (va_Qi (fun (r : Int32) (_ : Unit) => r = r0) (fun (_ : Unit) t => wAt (dC, dI) A (wG (cM cy ad) ad 40 σ) t) A) (#[.ref (ad 0)]) s 0 0 A) (F0 m 0 ls []) := by
    intro σ H locs ls h hP hD hS hl
    unfold fX12_bits_0 at h
    refine lv_iconst (v := 0) hx hb dX12_bits_0 (by decide) ?_
    refine lv_istore_n (lv' := [(1, .int 0), (0, .ref (ad 0))]) hx hb dX12_bits_1 rfl hl (by decide) rfl (fun ls hl => ?_)
    have hl := lv_sub hl [1, 0] (l' := [(0, .ref (ad 0)), (1, .int 0)]) rfl
    refine lv_iconst (v := 0) hx hb dX12_bits_2 (by decide) ?_
    refine lv_istore_n (lv' := [(2, .int 0), (0, .ref (ad 0)), (1, .int 0)]) hx hb dX12_bits_3 rfl hl (by decide) rfl (fun ls hl => ?_)
    have hl := lv_sub hl [1, 2, 0] (l' := [(0, .ref (ad 0)), (1, .int 0), (2, .int 0)]) rfl
    exact w4 FU σ 0 0 H locs ls h hP hD hS hl
  intro H locs ls h hP hD hS hl
  exact w0 σ H locs ls h hP hD hS (lv_sub hl [0] rfl)

set_option maxHeartbeats 4000000 in
set_option maxRecDepth 100000 in
theorem tX12_seat (l : Launch) (dC : Nat → ClassId) (dI : Nat → Nat → Nat) (cy : Nat → ClassId) (ad : Nat → Nat) (σ : S2) (a1 : Int32) (a2 : Int32) (sz : Nat) (r0 : Int32) (h : fX12_seat σ a1 a2 = some r0) : Met l yX12_seat wsX12_seat ({ frames := 3, cells := 0, slots := 0, locals := 66 }) (va_Pc [.ref (ad 0), .int a1, .int a2] (wPre (dC, dI) cy (wG (cM cy ad) ad 40 σ) sz)) (va_Qi (fun (r : Int32) (_ : Unit) => r = r0) (fun (_ : Unit) t => wAt (dC, dI) (va_A (wG (cM cy ad) ad 40 σ) sz) (wG (cM cy ad) ad 40 σ) t) (va_A (wG (cM cy ad) ad 40 σ) sz)) 0 0 (va_A (wG (cM cy ad) ad 40 σ) sz) := by
  refine Met.ofW (cc := cX12_seat) (maxL := 3) (ret := (some .int)) (by decide) rfl ?_
  intro p e s m args below meth c s₁ B hml hv
  obtain ⟨rfl, hsz, hP, hK, hD0, hN⟩ := hv
  have hx := B.exec
  have hb := B.bytes
  have hr := B.returns
  have hts := atoms_spec (ws := wsX12_seat) B.pre
  have hown : s.vm.findClass RX12 = some m.cls := findClass_of_methodNamed B.named
  have hlocks := B.notSynchronized
  subst hsz
  have hD := hD0.self (sz := s.heap.size)
  generalize hAe : va_A (wG (cM cy ad) ad 40 σ) s.heap.size = A at hD ⊢
  have hA : ∀ q : Nat, s.heap.size ≤ q → A q := fun q h => by rw [← hAe]; exact Or.inr h
  have hS : va_S A s.heap s.heap [] := va_S.rf
  have hl := lv_entry ([.ref (ad 0), .int a1, .int a2]) (n := 3) (Nat.le_of_ble_eq_true rfl)
  rw [lg_entry_eq]
  generalize (lg_sl ([.ref (ad 0), .int a1, .int a2]) ++ List.replicate (3 - (lg_sl ([.ref (ad 0), .int a1, .int a2])).length) Slot.unset).toArray = ls at hl ⊢
  have hl : lv_has ls 3 [(0, .ref (ad 0)), (1, .int a1), (2, .int a2)] := hl
  unfold fX12_seat at h
  clear hAe hD0
  suffices HH : ∀ (H : Heap) (locs : List Loc) (ls : Array Slot), fX12_seat_0 σ a1 a2 = some r0 → va_P (dC, dI) vwCl (wG (cM cy ad) ad 40 σ) H → va_D A (wG (cM cy ad) ad 40 σ) → va_S A s.heap H locs → lv_has ls 3 [(0, .ref (ad 0)), (1, .int a1), (2, .int a2)] → W p l e (headSpec wsX12_seat ({ frames := 3, cells := 0, slots := 0, locals := 66 })).room s m (#[.ref (ad 0), .int a1, .int a2]) below meth c H locs 0 0 (MQ below (va_Qi (fun (r : Int32) (_ : Unit) => r = r0) (fun (_ : Unit) t => wAt (dC, dI) A (wG (cM cy ad) ad 40 σ) t) A) (#[.ref (ad 0), .int a1, .int a2]) s 0 0 A) (F0 m 0 ls []) from HH s.heap [] ls h hP hD hS hl
  have w19 : ∀ (σ : S2)  (H : Heap) (locs : List Loc) (ls : Array Slot), fX12_seat_19 σ = some r0 → va_P (dC, dI) vwCl (wG (cM cy ad) ad 40 σ) H → va_D A (wG (cM cy ad) ad 40 σ) → va_S A s.heap H locs → lv_has ls 3 [] → W p l e (headSpec wsX12_seat ({ frames := 3, cells := 0, slots := 0, locals := 66 })).room s m (#[.ref (ad 0), .int a1, .int a2]) below meth c H locs 0 0 (MQ below (va_Qi (fun (r : Int32) (_ : Unit) => r = r0) (fun (_ : Unit) t => wAt (dC, dI) A (wG (cM cy ad) ad 40 σ) t) A) (#[.ref (ad 0), .int a1, .int a2]) s 0 0 A) (F0 m 19 ls []) := by
    intro σ H locs ls h hP hD hS hl
    unfold fX12_seat_19 at h
    refine lv_iconst (v := (-1)) hx hb dX12_seat_19 (by decide) ?_
    refine lv_goto (tgt := 56) hx hb dX12_seat_20 (by decide) ?_
    exact ux_iretP hx hb hr h hP hD hS hlocks dX12_seat_56
  have w0 : ∀ (σ : S2) (x1 : Int32) (x2 : Int32) (H : Heap) (locs : List Loc) (ls : Array Slot), fX12_seat_0 σ x1 x2 = some r0 → va_P (dC, dI) vwCl (wG (cM cy ad) ad 40 σ) H → va_D A (wG (cM cy ad) ad 40 σ) → va_S A s.heap H locs → lv_has ls 3 [(0, .ref (ad 0)), (1, .int x1), (2, .int x2)] → W p l e (headSpec wsX12_seat ({ frames := 3, cells := 0, slots := 0, locals := 66 })).room s m (#[.ref (ad 0), .int a1, .int a2]) below meth c H locs 0 0 (MQ below (va_Qi (fun (r : Int32) (_ : Unit) => r = r0) (fun (_ : Unit) t => wAt (dC, dI) A (wG (cM cy ad) ad 40 σ) t) A) (#[.ref (ad 0), .int a1, .int a2]) s 0 0 A) (F0 m 0 ls []) := by
    intro σ x1 x2 H locs ls h hP hD hS hl
    unfold fX12_seat_0 at h
    refine lv_aload_n hx hb dX12_seat_0 rfl (lv_at hl 0 rfl) ?_
    refine lv_iload_n hx hb dX12_seat_1 rfl (lv_at hl 1 rfl) ?_
    obtain ⟨r1, hf2, h⟩ := biS h
    refine ux_calli (va_runV (As := [.int x1]) (rest := []) ⟨hx, hb, hml, hown, hts⟩ (tX12_isTable l dC dI cy ad σ x1 H.size r1 hf2) (cwV 1 hts gX12_seat_X12_isTable rfl rfl rfl (by decide +kernel) ⟨Nat.le_of_ble_eq_true rfl, Nat.le_of_ble_eq_true rfl⟩) (wp_V hK hN hP hD (va_recv hK hP (ci := 12) (q0 := 0) rfl (wG_of (Nat.le_of_ble_eq_true rfl) rfl))) rfl rfl hl.1 rfl (lv_room (Nat.le_of_ble_eq_true rfl)) dX12_seat_2 ⟨Nat.le_of_ble_eq_true rfl, Nat.le_of_ble_eq_true rfl⟩) hD hS hA (fun H locs hP hD hS => ?_)
    refine lv_if_eq (tgt := 19) hx hb dX12_seat_5 (by decide) (fun hcd => ?_) (fun hcd => ?_)
    · have h := cdP hcd h
      exact w19 σ H locs ls h hP hD hS (lv_sub hl [] rfl)
    · have h := cdN hcd h
      refine lv_iload_n hx hb dX12_seat_8 rfl (lv_at hl 2 rfl) ?_
      refine lv_iconst (v := 0) hx hb dX12_seat_9 (by decide) ?_
      refine lv_sipush (v := 999) hx hb dX12_seat_10 (by decide) ?_
      obtain ⟨r3, hf4, h⟩ := biS h
      refine ux_calli (va_runS (As := [.int x2, .int 0, .int 999]) (rest := []) ⟨hx, hb, hml, hown, hts⟩ (tX12_in l dC dI cy ad σ x2 0 999 H.size r3 hf4) (va_cwS 3 hts gX12_seat_X12_in rfl rfl rfl (by decide +kernel) ⟨Nat.le_of_ble_eq_true rfl, Nat.le_of_ble_eq_true rfl⟩) (wp_S hK hN hP hD) rfl rfl hl.1 rfl (lv_room (Nat.le_of_ble_eq_true rfl)) dX12_seat_13 ⟨Nat.le_of_ble_eq_true rfl, Nat.le_of_ble_eq_true rfl⟩) hD hS hA (fun H locs hP hD hS => ?_)
      refine lv_if_ne (tgt := 23) hx hb dX12_seat_16 (by decide) (fun hcd => ?_) (fun hcd => ?_)
      · have h := cdN hcd h
        refine lv_aload_n hx hb dX12_seat_23 rfl (lv_at hl 0 rfl) ?_
        refine ux_get (D := (dC, dI)) (ci := 12) (v := .ref (ad 18)) (C := RX12) (T := TX12) (M := 59) (fs := (oM ad (σ.1 0))) hx hb hts (fun _ h9 => List.mem_cons_of_mem _ (List.mem_append_right _ h9)) hown hK hP 0 (Nat.le_of_ble_eq_true rfl) rfl rfl 20 (by decide) (hts (.fieldLink RX12 62 "SeatsRoundModel" "seats" "[I") (List.mem_of_getElem? (i := 1) rfl)) (fun _ h9 => h9) rfl dX12_seat_24 ?_
        refine lv_sipush (v := 1000) hx hb dX12_seat_27 (by decide) ?_
        refine lv_iload_n hx hb dX12_seat_30 rfl (lv_at hl 1 rfl) ?_
        refine lv_imul hx hb dX12_seat_31 ?_
        refine lv_iload_n hx hb dX12_seat_32 rfl (lv_at hl 2 rfl) ?_
        refine lv_iadd hx hb dX12_seat_33 ?_
        refine ux_iald hx hb hK hP 18 0 (Nat.le_of_ble_eq_true rfl) (cM_18 _ _ _ _) rfl h dX12_seat_34 (fun v5 h => ?_)
        change W _ _ _ _ _ _ _ _ _ _ _ _ _ _ _ (F0 m 35 ls [.int v5])
        refine lv_iconst (v := (-1)) hx hb dX12_seat_35 (by decide) ?_
        refine lv_icmp_ne (tgt := 44) hx hb dX12_seat_36 (by decide) (fun hcd => ?_) (fun hcd => ?_)
        · have h := cdN hcd h
          refine lv_aload_n hx hb dX12_seat_44 rfl (lv_at hl 0 rfl) ?_
          refine ux_get (D := (dC, dI)) (ci := 12) (v := .ref (ad 18)) (C := RX12) (T := TX12) (M := 59) (fs := (oM ad (σ.1 0))) hx hb hts (fun _ h9 => List.mem_cons_of_mem _ (List.mem_append_right _ h9)) hown hK hP 0 (Nat.le_of_ble_eq_true rfl) rfl rfl 20 (by decide) (hts (.fieldLink RX12 62 "SeatsRoundModel" "seats" "[I") (List.mem_of_getElem? (i := 1) rfl)) (fun _ h9 => h9) rfl dX12_seat_45 ?_
          refine lv_sipush (v := 1000) hx hb dX12_seat_48 (by decide) ?_
          refine lv_iload_n hx hb dX12_seat_51 rfl (lv_at hl 1 rfl) ?_
          refine lv_imul hx hb dX12_seat_52 ?_
          refine lv_iload_n hx hb dX12_seat_53 rfl (lv_at hl 2 rfl) ?_
          refine lv_iadd hx hb dX12_seat_54 ?_
          refine ux_iald hx hb hK hP 18 0 (Nat.le_of_ble_eq_true rfl) (cM_18 _ _ _ _) rfl h dX12_seat_55 (fun v6 h => ?_)
          change W _ _ _ _ _ _ _ _ _ _ _ _ _ _ _ (F0 m 56 ls [.int v6])
          exact ux_iretP hx hb hr h hP hD hS hlocks dX12_seat_56
        · have h := cdP hcd h
          refine lv_bipush (v := (-2)) hx hb dX12_seat_39 (by decide) ?_
          refine lv_goto (tgt := 56) hx hb dX12_seat_41 (by decide) ?_
          exact ux_iretP hx hb hr h hP hD hS hlocks dX12_seat_56
      · have h := cdP hcd h
        exact w19 σ H locs ls h hP hD hS (lv_sub hl [] rfl)
  intro H locs ls h hP hD hS hl
  exact w0 σ a1 a2 H locs ls h hP hD hS (lv_sub hl [0, 1, 2] rfl)

set_option maxHeartbeats 4000000 in
set_option maxRecDepth 100000 in
theorem tX12_picked (l : Launch) (dC : Nat → ClassId) (dI : Nat → Nat → Nat) (cy : Nat → ClassId) (ad : Nat → Nat) (σ : S2) (a1 : Int32) (a2 : Int32) (a3 : Int32) (sz : Nat) (r0 : Int32) (σ9 : S2) (h : fX12_picked σ a1 a2 a3 = some (r0, σ9)) : Met l yX12_picked wsX12_picked ({ frames := 4, cells := 0, slots := 0, locals := 96 }) (va_Pc [.ref (ad 0), .int a1, .int a2, .int a3] (wPre (dC, dI) cy (wG (cM cy ad) ad 40 σ) sz)) (va_Qi (fun (r : Int32) (_ : Unit) => r = r0) (fun (_ : Unit) t => wAt (dC, dI) (va_A (wG (cM cy ad) ad 40 σ) sz) (wG (cM cy ad) ad 40 σ9) t) (va_A (wG (cM cy ad) ad 40 σ) sz)) 0 0 (va_A (wG (cM cy ad) ad 40 σ) sz) := by
  refine Met.ofW (cc := cX12_picked) (maxL := 4) (ret := (some .int)) (by decide) rfl ?_
  intro p e s m args below meth c s₁ B hml hv
  obtain ⟨rfl, hsz, hP, hK, hD0, hN⟩ := hv
  have hx := B.exec
  have hb := B.bytes
  have hr := B.returns
  have hts := atoms_spec (ws := wsX12_picked) B.pre
  have hown : s.vm.findClass RX12 = some m.cls := findClass_of_methodNamed B.named
  have hlocks := B.notSynchronized
  subst hsz
  have hD := hD0.self (sz := s.heap.size)
  generalize hAe : va_A (wG (cM cy ad) ad 40 σ) s.heap.size = A at hD ⊢
  have hA : ∀ q : Nat, s.heap.size ≤ q → A q := fun q h => by rw [← hAe]; exact Or.inr h
  have hS : va_S A s.heap s.heap [] := va_S.rf
  have hl := lv_entry ([.ref (ad 0), .int a1, .int a2, .int a3]) (n := 4) (Nat.le_of_ble_eq_true rfl)
  rw [lg_entry_eq]
  generalize (lg_sl ([.ref (ad 0), .int a1, .int a2, .int a3]) ++ List.replicate (4 - (lg_sl ([.ref (ad 0), .int a1, .int a2, .int a3])).length) Slot.unset).toArray = ls at hl ⊢
  have hl : lv_has ls 4 [(0, .ref (ad 0)), (1, .int a1), (2, .int a2), (3, .int a3)] := hl
  unfold fX12_picked at h
  clear hAe hD0
  suffices HH : ∀ (H : Heap) (locs : List Loc) (ls : Array Slot), fX12_picked_0 σ a1 a2 a3 = some (r0, σ9) → va_P (dC, dI) vwCl (wG (cM cy ad) ad 40 σ) H → va_D A (wG (cM cy ad) ad 40 σ) → va_S A s.heap H locs → lv_has ls 4 [(0, .ref (ad 0)), (1, .int a1), (2, .int a2), (3, .int a3)] → W p l e (headSpec wsX12_picked ({ frames := 4, cells := 0, slots := 0, locals := 96 })).room s m (#[.ref (ad 0), .int a1, .int a2, .int a3]) below meth c H locs 0 0 (MQ below (va_Qi (fun (r : Int32) (_ : Unit) => r = r0) (fun (_ : Unit) t => wAt (dC, dI) A (wG (cM cy ad) ad 40 σ9) t) A) (#[.ref (ad 0), .int a1, .int a2, .int a3]) s 0 0 A) (F0 m 0 ls []) from HH s.heap [] ls h hP hD hS hl
  have w0 : ∀ (σ : S2) (x1 : Int32) (x2 : Int32) (x3 : Int32) (H : Heap) (locs : List Loc) (ls : Array Slot), fX12_picked_0 σ x1 x2 x3 = some (r0, σ9) → va_P (dC, dI) vwCl (wG (cM cy ad) ad 40 σ) H → va_D A (wG (cM cy ad) ad 40 σ) → va_S A s.heap H locs → lv_has ls 4 [(0, .ref (ad 0)), (1, .int x1), (2, .int x2), (3, .int x3)] → W p l e (headSpec wsX12_picked ({ frames := 4, cells := 0, slots := 0, locals := 96 })).room s m (#[.ref (ad 0), .int a1, .int a2, .int a3]) below meth c H locs 0 0 (MQ below (va_Qi (fun (r : Int32) (_ : Unit) => r = r0) (fun (_ : Unit) t => wAt (dC, dI) A (wG (cM cy ad) ad 40 σ9) t) A) (#[.ref (ad 0), .int a1, .int a2, .int a3]) s 0 0 A) (F0 m 0 ls []) := by
    intro σ x1 x2 x3 H locs ls h hP hD hS hl
    unfold fX12_picked_0 at h
    refine lv_aload_n hx hb dX12_picked_0 rfl (lv_at hl 0 rfl) ?_
    refine lv_iload_n hx hb dX12_picked_1 rfl (lv_at hl 1 rfl) ?_
    obtain ⟨r1, hf2, h⟩ := biS h
    refine ux_calli (va_runV (As := [.int x1]) (rest := []) ⟨hx, hb, hml, hown, hts⟩ (tX12_isTable l dC dI cy ad σ x1 H.size r1 hf2) (cwV 1 hts gX12_picked_X12_isTable rfl rfl rfl (by decide +kernel) ⟨Nat.le_of_ble_eq_true rfl, Nat.le_of_ble_eq_true rfl⟩) (wp_V hK hN hP hD (va_recv hK hP (ci := 12) (q0 := 0) rfl (wG_of (Nat.le_of_ble_eq_true rfl) rfl))) rfl rfl hl.1 rfl (lv_room (Nat.le_of_ble_eq_true rfl)) dX12_picked_2 ⟨Nat.le_of_ble_eq_true rfl, Nat.le_of_ble_eq_true rfl⟩) hD hS hA (fun H locs hP hD hS => ?_)
    refine lv_if_eq (tgt := 19) hx hb dX12_picked_5 (by decide) (fun hcd => ?_) (fun hcd => ?_)
    · have h := cdP hcd h
      refine lv_iconst (v := (-1)) hx hb dX12_picked_19 (by decide) ?_
      exact ux_iret hx hb hr h hP hD hS hlocks dX12_picked_20
    · have h := cdN hcd h
      refine lv_iload_n hx hb dX12_picked_8 rfl (lv_at hl 2 rfl) ?_
      refine lv_iconst (v := 0) hx hb dX12_picked_9 (by decide) ?_
      refine lv_sipush (v := 999) hx hb dX12_picked_10 (by decide) ?_
      obtain ⟨r3, hf4, h⟩ := biS h
      refine ux_calli (va_runS (As := [.int x2, .int 0, .int 999]) (rest := []) ⟨hx, hb, hml, hown, hts⟩ (tX12_in l dC dI cy ad σ x2 0 999 H.size r3 hf4) (va_cwS 3 hts gX12_picked_X12_in rfl rfl rfl (by decide +kernel) ⟨Nat.le_of_ble_eq_true rfl, Nat.le_of_ble_eq_true rfl⟩) (wp_S hK hN hP hD) rfl rfl hl.1 rfl (lv_room (Nat.le_of_ble_eq_true rfl)) dX12_picked_13 ⟨Nat.le_of_ble_eq_true rfl, Nat.le_of_ble_eq_true rfl⟩) hD hS hA (fun H locs hP hD hS => ?_)
      refine lv_if_ne (tgt := 21) hx hb dX12_picked_16 (by decide) (fun hcd => ?_) (fun hcd => ?_)
      · have h := cdN hcd h
        refine lv_aload_n hx hb dX12_picked_21 rfl (lv_at hl 0 rfl) ?_
        refine lv_iload_n hx hb dX12_picked_22 rfl (lv_at hl 1 rfl) ?_
        refine lv_iload_n hx hb dX12_picked_23 rfl (lv_at hl 2 rfl) ?_
        obtain ⟨r5, σ6, hf7, h⟩ := bsS h
        refine ux_callv (va_runV (As := [.int x1, .int x2]) (rest := []) ⟨hx, hb, hml, hown, hts⟩ (tX12_pick l dC dI cy ad σ x1 x2 H.size r5 σ6 hf7) (cwV 2 hts gX12_picked_X12_pick rfl rfl rfl (by decide +kernel) ⟨Nat.le_of_ble_eq_true rfl, Nat.le_of_ble_eq_true rfl⟩) (wp_V hK hN hP hD (va_recv hK hP (ci := 12) (q0 := 0) rfl (wG_of (Nat.le_of_ble_eq_true rfl) rfl))) rfl rfl hl.1 rfl (lv_room (Nat.le_of_ble_eq_true rfl)) dX12_picked_24 ⟨Nat.le_of_ble_eq_true rfl, Nat.le_of_ble_eq_true rfl⟩) hD hS hA (fun H locs hP hD hS => ?_)
        refine lv_iload_n hx hb dX12_picked_27 rfl (lv_at hl 3 rfl) ?_
        refine lv_iconst (v := 0) hx hb dX12_picked_28 (by decide) ?_
        refine lv_aload_n hx hb dX12_picked_29 rfl (lv_at hl 0 rfl) ?_
        refine ux_get (D := (dC, dI)) (ci := 12) (v := .int (σ6.1 0 53)) (C := RX12) (T := TX12) (M := 59) (fs := (oM ad (σ6.1 0))) hx hb hts (fun _ h9 => List.mem_cons_of_mem _ (List.mem_append_right _ h9)) hown hK hP 0 (Nat.le_of_ble_eq_true rfl) rfl rfl 53 (by decide) (hts (.fieldLink RX12 240 "SeatsRoundModel" "pickedMany" "I") (List.mem_of_getElem? (i := 1) rfl)) (fun _ h9 => h9) rfl dX12_picked_30 ?_
        refine lv_iconst (v := 1) hx hb dX12_picked_33 (by decide) ?_
        refine lv_isub hx hb dX12_picked_34 ?_
        obtain ⟨r8, hf9, h⟩ := biS h
        refine ux_calli (va_runS (As := [.int x3, .int 0, .int ((σ6.1 0 53) - 1)]) (rest := []) ⟨hx, hb, hml, hown, hts⟩ (tX12_in l dC dI cy ad σ6 x3 0 ((σ6.1 0 53) - 1) H.size r8 hf9) (va_cwS 3 hts gX12_picked_X12_in rfl rfl rfl (by decide +kernel) ⟨Nat.le_of_ble_eq_true rfl, Nat.le_of_ble_eq_true rfl⟩) (wp_S hK hN hP hD) rfl rfl hl.1 rfl (lv_room (Nat.le_of_ble_eq_true rfl)) dX12_picked_35 ⟨Nat.le_of_ble_eq_true rfl, Nat.le_of_ble_eq_true rfl⟩) hD hS hA (fun H locs hP hD hS => ?_)
        refine lv_if_eq (tgt := 50) hx hb dX12_picked_38 (by decide) (fun hcd => ?_) (fun hcd => ?_)
        · have h := cdP hcd h
          refine lv_iconst (v := (-1)) hx hb dX12_picked_50 (by decide) ?_
          exact ux_iret hx hb hr h hP hD hS hlocks dX12_picked_51
        · have h := cdN hcd h
          refine lv_aload_n hx hb dX12_picked_41 rfl (lv_at hl 0 rfl) ?_
          refine ux_get (D := (dC, dI)) (ci := 12) (v := .ref (ad 35)) (C := RX12) (T := TX12) (M := 59) (fs := (oM ad (σ6.1 0))) hx hb hts (fun _ h9 => List.mem_cons_of_mem _ (List.mem_append_right _ h9)) hown hK hP 0 (Nat.le_of_ble_eq_true rfl) rfl rfl 52 (by decide) (hts (.fieldLink RX12 118 "SeatsRoundModel" "picked" "[I") (List.mem_of_getElem? (i := 2) rfl)) (fun _ h9 => h9) rfl dX12_picked_42 ?_
          refine lv_iload_n hx hb dX12_picked_45 rfl (lv_at hl 3 rfl) ?_
          refine ux_iald hx hb hK hP 35 0 (Nat.le_of_ble_eq_true rfl) (cM_35 _ _ _ _) rfl h dX12_picked_46 (fun v10 h => ?_)
          refine lv_goto (tgt := 51) hx hb dX12_picked_47 (by decide) ?_
          exact ux_iret hx hb hr h hP hD hS hlocks dX12_picked_51
      · have h := cdP hcd h
        refine lv_iconst (v := (-1)) hx hb dX12_picked_19 (by decide) ?_
        exact ux_iret hx hb hr h hP hD hS hlocks dX12_picked_20
  intro H locs ls h hP hD hS hl
  exact w0 σ a1 a2 a3 H locs ls h hP hD hS (lv_sub hl [0, 1, 2, 3] rfl)

set_option maxHeartbeats 4000000 in
set_option maxRecDepth 100000 in
theorem tX12_keeperOf (l : Launch) (dC : Nat → ClassId) (dI : Nat → Nat → Nat) (cy : Nat → ClassId) (ad : Nat → Nat) (σ : S2) (a1 : Int32) (a2 : Int32) (a3 : Int32) (sz : Nat) (r0 : Int32) (σ9 : S2) (h : fX12_keeperOf σ a1 a2 a3 = some (r0, σ9)) : Met l yX12_keeperOf wsX12_keeperOf ({ frames := 6, cells := 0, slots := 0, locals := 144 }) (va_Pc [.ref (ad 0), .int a1, .int a2, .int a3] (wPre (dC, dI) cy (wG (cM cy ad) ad 40 σ) sz)) (va_Qi (fun (r : Int32) (_ : Unit) => r = r0) (fun (_ : Unit) t => wAt (dC, dI) (va_A (wG (cM cy ad) ad 40 σ) sz) (wG (cM cy ad) ad 40 σ9) t) (va_A (wG (cM cy ad) ad 40 σ) sz)) 0 0 (va_A (wG (cM cy ad) ad 40 σ) sz) := by
  refine Met.ofW (cc := cX12_keeperOf) (maxL := 4) (ret := (some .int)) (by decide) rfl ?_
  intro p e s m args below meth c s₁ B hml hv
  obtain ⟨rfl, hsz, hP, hK, hD0, hN⟩ := hv
  have hx := B.exec
  have hb := B.bytes
  have hr := B.returns
  have hts := atoms_spec (ws := wsX12_keeperOf) B.pre
  have hown : s.vm.findClass RX12 = some m.cls := findClass_of_methodNamed B.named
  have hlocks := B.notSynchronized
  subst hsz
  have hD := hD0.self (sz := s.heap.size)
  generalize hAe : va_A (wG (cM cy ad) ad 40 σ) s.heap.size = A at hD ⊢
  have hA : ∀ q : Nat, s.heap.size ≤ q → A q := fun q h => by rw [← hAe]; exact Or.inr h
  have hS : va_S A s.heap s.heap [] := va_S.rf
  have hl := lv_entry ([.ref (ad 0), .int a1, .int a2, .int a3]) (n := 4) (Nat.le_of_ble_eq_true rfl)
  rw [lg_entry_eq]
  generalize (lg_sl ([.ref (ad 0), .int a1, .int a2, .int a3]) ++ List.replicate (4 - (lg_sl ([.ref (ad 0), .int a1, .int a2, .int a3])).length) Slot.unset).toArray = ls at hl ⊢
  have hl : lv_has ls 4 [(0, .ref (ad 0)), (1, .int a1), (2, .int a2), (3, .int a3)] := hl
  unfold fX12_keeperOf at h
  clear hAe hD0
  suffices HH : ∀ (H : Heap) (locs : List Loc) (ls : Array Slot), fX12_keeperOf_0 σ a1 a2 a3 = some (r0, σ9) → va_P (dC, dI) vwCl (wG (cM cy ad) ad 40 σ) H → va_D A (wG (cM cy ad) ad 40 σ) → va_S A s.heap H locs → lv_has ls 4 [(0, .ref (ad 0)), (1, .int a1), (2, .int a2), (3, .int a3)] → W p l e (headSpec wsX12_keeperOf ({ frames := 6, cells := 0, slots := 0, locals := 144 })).room s m (#[.ref (ad 0), .int a1, .int a2, .int a3]) below meth c H locs 0 0 (MQ below (va_Qi (fun (r : Int32) (_ : Unit) => r = r0) (fun (_ : Unit) t => wAt (dC, dI) A (wG (cM cy ad) ad 40 σ9) t) A) (#[.ref (ad 0), .int a1, .int a2, .int a3]) s 0 0 A) (F0 m 0 ls []) from HH s.heap [] ls h hP hD hS hl
  have w0 : ∀ (σ : S2) (x1 : Int32) (x2 : Int32) (x3 : Int32) (H : Heap) (locs : List Loc) (ls : Array Slot), fX12_keeperOf_0 σ x1 x2 x3 = some (r0, σ9) → va_P (dC, dI) vwCl (wG (cM cy ad) ad 40 σ) H → va_D A (wG (cM cy ad) ad 40 σ) → va_S A s.heap H locs → lv_has ls 4 [(0, .ref (ad 0)), (1, .int x1), (2, .int x2), (3, .int x3)] → W p l e (headSpec wsX12_keeperOf ({ frames := 6, cells := 0, slots := 0, locals := 144 })).room s m (#[.ref (ad 0), .int a1, .int a2, .int a3]) below meth c H locs 0 0 (MQ below (va_Qi (fun (r : Int32) (_ : Unit) => r = r0) (fun (_ : Unit) t => wAt (dC, dI) A (wG (cM cy ad) ad 40 σ9) t) A) (#[.ref (ad 0), .int a1, .int a2, .int a3]) s 0 0 A) (F0 m 0 ls []) := by
    intro σ x1 x2 x3 H locs ls h hP hD hS hl
    unfold fX12_keeperOf_0 at h
    refine lv_aload_n hx hb dX12_keeperOf_0 rfl (lv_at hl 0 rfl) ?_
    refine lv_iload_n hx hb dX12_keeperOf_1 rfl (lv_at hl 1 rfl) ?_
    obtain ⟨r1, hf2, h⟩ := biS h
    refine ux_calli (va_runV (As := [.int x1]) (rest := []) ⟨hx, hb, hml, hown, hts⟩ (tX12_isTable l dC dI cy ad σ x1 H.size r1 hf2) (cwV 1 hts gX12_keeperOf_X12_isTable rfl rfl rfl (by decide +kernel) ⟨Nat.le_of_ble_eq_true rfl, Nat.le_of_ble_eq_true rfl⟩) (wp_V hK hN hP hD (va_recv hK hP (ci := 12) (q0 := 0) rfl (wG_of (Nat.le_of_ble_eq_true rfl) rfl))) rfl rfl hl.1 rfl (lv_room (Nat.le_of_ble_eq_true rfl)) dX12_keeperOf_2 ⟨Nat.le_of_ble_eq_true rfl, Nat.le_of_ble_eq_true rfl⟩) hD hS hA (fun H locs hP hD hS => ?_)
    refine lv_if_eq (tgt := 16) hx hb dX12_keeperOf_5 (by decide) (fun hcd => ?_) (fun hcd => ?_)
    · have h := cdP hcd h
      refine lv_iconst (v := (-1)) hx hb dX12_keeperOf_16 (by decide) ?_
      exact ux_iret hx hb hr h hP hD hS hlocks dX12_keeperOf_17
    · have h := cdN hcd h
      refine lv_aload_n hx hb dX12_keeperOf_8 rfl (lv_at hl 0 rfl) ?_
      refine lv_iload_n hx hb dX12_keeperOf_9 rfl (lv_at hl 2 rfl) ?_
      obtain ⟨r3, hf4, h⟩ := biS h
      refine ux_calli (va_runV (As := [.int x2]) (rest := []) ⟨hx, hb, hml, hown, hts⟩ (tX12_isName l dC dI cy ad σ x2 H.size r3 hf4) (cwV 1 hts gX12_keeperOf_X12_isName rfl rfl rfl (by decide +kernel) ⟨Nat.le_of_ble_eq_true rfl, Nat.le_of_ble_eq_true rfl⟩) (wp_V hK hN hP hD (va_recv hK hP (ci := 12) (q0 := 0) rfl (wG_of (Nat.le_of_ble_eq_true rfl) rfl))) rfl rfl hl.1 rfl (lv_room (Nat.le_of_ble_eq_true rfl)) dX12_keeperOf_10 ⟨Nat.le_of_ble_eq_true rfl, Nat.le_of_ble_eq_true rfl⟩) hD hS hA (fun H locs hP hD hS => ?_)
      refine lv_if_ne (tgt := 18) hx hb dX12_keeperOf_13 (by decide) (fun hcd => ?_) (fun hcd => ?_)
      · have h := cdN hcd h
        refine lv_aload_n hx hb dX12_keeperOf_18 rfl (lv_at hl 0 rfl) ?_
        refine lv_iload_n hx hb dX12_keeperOf_19 rfl (lv_at hl 1 rfl) ?_
        refine lv_iload_n hx hb dX12_keeperOf_20 rfl (lv_at hl 2 rfl) ?_
        obtain ⟨r5, σ6, hf7, h⟩ := bsS h
        refine ux_callv (va_runV (As := [.int x1, .int x2]) (rest := []) ⟨hx, hb, hml, hown, hts⟩ (tX12_chooseName l dC dI cy ad σ x1 x2 H.size r5 σ6 hf7) (cwV 2 hts gX12_keeperOf_X12_chooseName rfl rfl rfl (by decide +kernel) ⟨Nat.le_of_ble_eq_true rfl, Nat.le_of_ble_eq_true rfl⟩) (wp_V hK hN hP hD (va_recv hK hP (ci := 12) (q0 := 0) rfl (wG_of (Nat.le_of_ble_eq_true rfl) rfl))) rfl rfl hl.1 rfl (lv_room (Nat.le_of_ble_eq_true rfl)) dX12_keeperOf_21 ⟨Nat.le_of_ble_eq_true rfl, Nat.le_of_ble_eq_true rfl⟩) hD hS hA (fun H locs hP hD hS => ?_)
        refine lv_iload_n hx hb dX12_keeperOf_24 rfl (lv_at hl 3 rfl) ?_
        refine lv_iconst (v := (-1)) hx hb dX12_keeperOf_25 (by decide) ?_
        refine lv_icmp_ne (tgt := 36) hx hb dX12_keeperOf_26 (by decide) (fun hcd => ?_) (fun hcd => ?_)
        · have h := cdN hcd h
          refine lv_iload_n hx hb dX12_keeperOf_36 rfl (lv_at hl 3 rfl) ?_
          refine lv_iconst (v := 0) hx hb dX12_keeperOf_37 (by decide) ?_
          refine lv_aload_n hx hb dX12_keeperOf_38 rfl (lv_at hl 0 rfl) ?_
          refine ux_get (D := (dC, dI)) (ci := 12) (v := .int (σ6.1 0 55)) (C := RX12) (T := TX12) (M := 59) (fs := (oM ad (σ6.1 0))) hx hb hts (fun _ h9 => List.mem_cons_of_mem _ (List.mem_append_right _ h9)) hown hK hP 0 (Nat.le_of_ble_eq_true rfl) rfl rfl 55 (by decide) (hts (.fieldLink RX12 250 "SeatsRoundModel" "chosenMany" "I") (List.mem_of_getElem? (i := 1) rfl)) (fun _ h9 => h9) rfl dX12_keeperOf_39 ?_
          refine lv_iconst (v := 1) hx hb dX12_keeperOf_42 (by decide) ?_
          refine lv_isub hx hb dX12_keeperOf_43 ?_
          obtain ⟨r8, hf9, h⟩ := biS h
          refine ux_calli (va_runS (As := [.int x3, .int 0, .int ((σ6.1 0 55) - 1)]) (rest := []) ⟨hx, hb, hml, hown, hts⟩ (tX12_in l dC dI cy ad σ6 x3 0 ((σ6.1 0 55) - 1) H.size r8 hf9) (va_cwS 3 hts gX12_keeperOf_X12_in rfl rfl rfl (by decide +kernel) ⟨Nat.le_of_ble_eq_true rfl, Nat.le_of_ble_eq_true rfl⟩) (wp_S hK hN hP hD) rfl rfl hl.1 rfl (lv_room (Nat.le_of_ble_eq_true rfl)) dX12_keeperOf_44 ⟨Nat.le_of_ble_eq_true rfl, Nat.le_of_ble_eq_true rfl⟩) hD hS hA (fun H locs hP hD hS => ?_)
          refine lv_if_eq (tgt := 59) hx hb dX12_keeperOf_47 (by decide) (fun hcd => ?_) (fun hcd => ?_)
          · have h := cdP hcd h
            refine lv_iconst (v := (-1)) hx hb dX12_keeperOf_59 (by decide) ?_
            exact ux_iret hx hb hr h hP hD hS hlocks dX12_keeperOf_60
          · have h := cdN hcd h
            refine lv_aload_n hx hb dX12_keeperOf_50 rfl (lv_at hl 0 rfl) ?_
            refine ux_get (D := (dC, dI)) (ci := 12) (v := .ref (ad 36)) (C := RX12) (T := TX12) (M := 59) (fs := (oM ad (σ6.1 0))) hx hb hts (fun _ h9 => List.mem_cons_of_mem _ (List.mem_append_right _ h9)) hown hK hP 0 (Nat.le_of_ble_eq_true rfl) rfl rfl 54 (by decide) (hts (.fieldLink RX12 121 "SeatsRoundModel" "chosen" "[I") (List.mem_of_getElem? (i := 2) rfl)) (fun _ h9 => h9) rfl dX12_keeperOf_51 ?_
            refine lv_iload_n hx hb dX12_keeperOf_54 rfl (lv_at hl 3 rfl) ?_
            refine ux_iald hx hb hK hP 36 0 (Nat.le_of_ble_eq_true rfl) (cM_36 _ _ _ _) rfl h dX12_keeperOf_55 (fun v10 h => ?_)
            refine lv_goto (tgt := 60) hx hb dX12_keeperOf_56 (by decide) ?_
            exact ux_iret hx hb hr h hP hD hS hlocks dX12_keeperOf_60
        · have h := cdP hcd h
          refine lv_aload_n hx hb dX12_keeperOf_29 rfl (lv_at hl 0 rfl) ?_
          refine ux_get (D := (dC, dI)) (ci := 12) (v := .int (σ6.1 0 55)) (C := RX12) (T := TX12) (M := 59) (fs := (oM ad (σ6.1 0))) hx hb hts (fun _ h9 => List.mem_cons_of_mem _ (List.mem_append_right _ h9)) hown hK hP 0 (Nat.le_of_ble_eq_true rfl) rfl rfl 55 (by decide) (hts (.fieldLink RX12 250 "SeatsRoundModel" "chosenMany" "I") (List.mem_of_getElem? (i := 1) rfl)) (fun _ h9 => h9) rfl dX12_keeperOf_30 ?_
          refine lv_goto (tgt := 60) hx hb dX12_keeperOf_33 (by decide) ?_
          exact ux_iret hx hb hr h hP hD hS hlocks dX12_keeperOf_60
      · have h := cdP hcd h
        refine lv_iconst (v := (-1)) hx hb dX12_keeperOf_16 (by decide) ?_
        exact ux_iret hx hb hr h hP hD hS hlocks dX12_keeperOf_17
  intro H locs ls h hP hD hS hl
  exact w0 σ a1 a2 a3 H locs ls h hP hD hS (lv_sub hl [0, 1, 2, 3] rfl)

set_option maxHeartbeats 4000000 in
set_option maxRecDepth 100000 in
theorem tX12_tooFew (l : Launch) (dC : Nat → ClassId) (dI : Nat → Nat → Nat) (cy : Nat → ClassId) (ad : Nat → Nat) (σ : S2) (a1 : Int32) (sz : Nat) (r0 : Int32) (σ9 : S2) (h : fX12_tooFew σ a1 = some (r0, σ9)) : Met l yX12_tooFew wsX12_tooFew ({ frames := 6, cells := 0, slots := 0, locals := 144 }) (va_Pc [.ref (ad 0), .int a1] (wPre (dC, dI) cy (wG (cM cy ad) ad 40 σ) sz)) (va_Qi (fun (r : Int32) (_ : Unit) => r = r0) (fun (_ : Unit) t => wAt (dC, dI) (va_A (wG (cM cy ad) ad 40 σ) sz) (wG (cM cy ad) ad 40 σ9) t) (va_A (wG (cM cy ad) ad 40 σ) sz)) 0 0 (va_A (wG (cM cy ad) ad 40 σ) sz) := by
  refine Met.ofW (cc := cX12_tooFew) (maxL := 4) (ret := (some .int)) (by decide) rfl ?_
  intro p e s m args below meth c s₁ B hml hv
  obtain ⟨rfl, hsz, hP, hK, hD0, hN⟩ := hv
  have hx := B.exec
  have hb := B.bytes
  have hr := B.returns
  have hts := atoms_spec (ws := wsX12_tooFew) B.pre
  have hown : s.vm.findClass RX12 = some m.cls := findClass_of_methodNamed B.named
  have hlocks := B.notSynchronized
  subst hsz
  have hD := hD0.self (sz := s.heap.size)
  generalize hAe : va_A (wG (cM cy ad) ad 40 σ) s.heap.size = A at hD ⊢
  have hA : ∀ q : Nat, s.heap.size ≤ q → A q := fun q h => by rw [← hAe]; exact Or.inr h
  have hS : va_S A s.heap s.heap [] := va_S.rf
  have hl := lv_entry ([.ref (ad 0), .int a1]) (n := 4) (Nat.le_of_ble_eq_true rfl)
  rw [lg_entry_eq]
  generalize (lg_sl ([.ref (ad 0), .int a1]) ++ List.replicate (4 - (lg_sl ([.ref (ad 0), .int a1])).length) Slot.unset).toArray = ls at hl ⊢
  have hl : lv_has ls 4 [(0, .ref (ad 0)), (1, .int a1)] := hl
  unfold fX12_tooFew at h
  clear hAe hD0
  suffices HH : ∀ (H : Heap) (locs : List Loc) (ls : Array Slot), fX12_tooFew_0 σ a1 = some (r0, σ9) → va_P (dC, dI) vwCl (wG (cM cy ad) ad 40 σ) H → va_D A (wG (cM cy ad) ad 40 σ) → va_S A s.heap H locs → lv_has ls 4 [(0, .ref (ad 0)), (1, .int a1)] → W p l e (headSpec wsX12_tooFew ({ frames := 6, cells := 0, slots := 0, locals := 144 })).room s m (#[.ref (ad 0), .int a1]) below meth c H locs 0 0 (MQ below (va_Qi (fun (r : Int32) (_ : Unit) => r = r0) (fun (_ : Unit) t => wAt (dC, dI) A (wG (cM cy ad) ad 40 σ9) t) A) (#[.ref (ad 0), .int a1]) s 0 0 A) (F0 m 0 ls []) from HH s.heap [] ls h hP hD hS hl
  have w48 : ∀ (k14 : S2 → Int32 → Int32 → Int32 → Option (Int32 × S2)) (hk14 : ∀ (σ : S2) (x1 : Int32) (x2 : Int32) (x3 : Int32) (H : Heap) (locs : List Loc) (ls : Array Slot), k14 σ x1 x2 x3 = some (r0, σ9) → va_P (dC, dI) vwCl (wG (cM cy ad) ad 40 σ) H → va_D A (wG (cM cy ad) ad 40 σ) → va_S A s.heap H locs → lv_has ls 4 [(0, .ref (ad 0)), (1, .int x1), (2, .int x2), (3, .int x3)] → W p l e (headSpec wsX12_tooFew ({ frames := 6, cells := 0, slots := 0, locals := 144 })).room s m (#[.ref (ad 0), .int a1]) below meth c H locs 0 0 (MQ below (va_Qi (fun (r : Int32) (_ : Unit) => r = r0) (fun (_ : Unit) t => wAt (dC, dI) A (wG (cM cy ad) ad 40 σ9) t) A) (#[.ref (ad 0), .int a1]) s 0 0 A) (F0 m 14 ls [])) , ∀ (σ : S2) (x1 : Int32) (x3 : Int32) (s0 : Int32) (s1 : Int32) (H : Heap) (locs : List Loc) (ls : Array Slot), fX12_tooFew_48 k14 σ x1 x3 s0 s1 = some (r0, σ9) → va_P (dC, dI) vwCl (wG (cM cy ad) ad 40 σ) H → va_D A (wG (cM cy ad) ad 40 σ) → va_S A s.heap H locs → lv_has ls 4 [(0, .ref (ad 0)), (1, .int x1), (3, .int x3)] → W p l e (headSpec wsX12_tooFew ({ frames := 6, cells := 0, slots := 0, locals := 144 })).room s m (#[.ref (ad 0), .int a1]) below meth c H locs 0 0 (MQ below (va_Qi (fun (r : Int32) (_ : Unit) => r = r0) (fun (_ : Unit) t => wAt (dC, dI) A (wG (cM cy ad) ad 40 σ9) t) A) (#[.ref (ad 0), .int a1]) s 0 0 A) (F0 m 48 ls [.int s0, .int s1]) := by
    intro k14 hk14 σ x1 x3 s0 s1 H locs ls h hP hD hS hl
    unfold fX12_tooFew_48 at h
    refine lv_iadd hx hb dX12_tooFew_48 ?_
    refine lv_topi (fun v1 ev1 => ?_)
    have h := nmS h ev1
    refine lv_istore_n (lv' := [(2, .int v1), (0, .ref (ad 0)), (1, .int x1), (3, .int x3)]) hx hb dX12_tooFew_49 rfl hl (by decide) rfl (fun ls hl => ?_)
    have hl := lv_sub hl [1, 2, 0, 3] (l' := [(0, .ref (ad 0)), (1, .int x1), (2, .int v1), (3, .int x3)]) rfl
    obtain ⟨v2, ev2⟩ : ∃ y : Int32, y = x3 + 1 := ⟨_, rfl⟩
    have h := nmS h ev2
    refine lv_iinc (v := v2) (lv' := [(3, .int v2), (0, .ref (ad 0)), (1, .int x1), (2, .int v1)]) hx hb dX12_tooFew_50 hl (k := 3) rfl (by rw [ev2]; rfl) (by decide) rfl (fun ls hl => ?_)
    have hl := lv_sub hl [1, 2, 3, 0] (l' := [(0, .ref (ad 0)), (1, .int x1), (2, .int v1), (3, .int v2)]) rfl
    refine lv_goto (tgt := 14) hx hb dX12_tooFew_53 (by decide) ?_
    exact hk14 σ x1 v1 v2 H locs ls h hP hD hS hl
  have w14 : ∀ (n : Nat), ∀ (σ : S2) (x1 : Int32) (x2 : Int32) (x3 : Int32) (H : Heap) (locs : List Loc) (ls : Array Slot), fX12_tooFew_14 n σ x1 x2 x3 = some (r0, σ9) → va_P (dC, dI) vwCl (wG (cM cy ad) ad 40 σ) H → va_D A (wG (cM cy ad) ad 40 σ) → va_S A s.heap H locs → lv_has ls 4 [(0, .ref (ad 0)), (1, .int x1), (2, .int x2), (3, .int x3)] → W p l e (headSpec wsX12_tooFew ({ frames := 6, cells := 0, slots := 0, locals := 144 })).room s m (#[.ref (ad 0), .int a1]) below meth c H locs 0 0 (MQ below (va_Qi (fun (r : Int32) (_ : Unit) => r = r0) (fun (_ : Unit) t => wAt (dC, dI) A (wG (cM cy ad) ad 40 σ9) t) A) (#[.ref (ad 0), .int a1]) s 0 0 A) (F0 m 14 ls []) := by
    intro n
    induction n with
    | zero => intro σ x1 x2 x3 H locs ls h; cases h
    | succ n ih =>
    intro σ x1 x2 x3 H locs ls h hP hD hS hl
    unfold fX12_tooFew_14 at h
    refine lv_iload_n hx hb dX12_tooFew_14 rfl (lv_at hl 3 rfl) ?_
    refine lv_aload_n hx hb dX12_tooFew_15 rfl (lv_at hl 0 rfl) ?_
    refine ux_get (D := (dC, dI)) (ci := 12) (v := .int (σ.1 0 0)) (C := RX12) (T := TX12) (M := 59) (fs := (oM ad (σ.1 0))) hx hb hts (fun _ h9 => List.mem_cons_of_mem _ (List.mem_append_right _ h9)) hown hK hP 0 (Nat.le_of_ble_eq_true rfl) rfl rfl 0 (by decide) (hts (.fieldLink RX12 133 "SeatsRoundModel" "names" "I") (List.mem_of_getElem? (i := 1) rfl)) (fun _ h9 => h9) rfl dX12_tooFew_16 ?_
    refine lv_icmp_ge (tgt := 56) hx hb dX12_tooFew_19 (by decide) (fun hcd => ?_) (fun hcd => ?_)
    · have h := cdP hcd h
      refine lv_iload_n hx hb dX12_tooFew_56 rfl (lv_at hl 2 rfl) ?_
      exact ux_iret hx hb hr h hP hD hS hlocks dX12_tooFew_57
    · have h := cdN hcd h
      refine lv_aload_n hx hb dX12_tooFew_22 rfl (lv_at hl 0 rfl) ?_
      refine lv_iload_n hx hb dX12_tooFew_23 rfl (lv_at hl 1 rfl) ?_
      refine lv_iload_n hx hb dX12_tooFew_24 rfl (lv_at hl 3 rfl) ?_
      obtain ⟨r3, σ4, hf5, h⟩ := bsS h
      refine ux_callv (va_runV (As := [.int x1, .int x3]) (rest := []) ⟨hx, hb, hml, hown, hts⟩ (tX12_chooseName l dC dI cy ad σ x1 x3 H.size r3 σ4 hf5) (cwV 2 hts gX12_tooFew_X12_chooseName rfl rfl rfl (by decide +kernel) ⟨Nat.le_of_ble_eq_true rfl, Nat.le_of_ble_eq_true rfl⟩) (wp_V hK hN hP hD (va_recv hK hP (ci := 12) (q0 := 0) rfl (wG_of (Nat.le_of_ble_eq_true rfl) rfl))) rfl rfl hl.1 rfl (lv_room (Nat.le_of_ble_eq_true rfl)) dX12_tooFew_25 ⟨Nat.le_of_ble_eq_true rfl, Nat.le_of_ble_eq_true rfl⟩) hD hS hA (fun H locs hP hD hS => ?_)
      refine lv_iload_n hx hb dX12_tooFew_28 rfl (lv_at hl 2 rfl) ?_
      refine lv_aload_n hx hb dX12_tooFew_29 rfl (lv_at hl 0 rfl) ?_
      refine lv_iload_n hx hb dX12_tooFew_30 rfl (lv_at hl 1 rfl) ?_
      obtain ⟨r6, hf7, h⟩ := biS h
      refine ux_calli (va_runV (As := [.int x1]) (rest := [.int x2]) ⟨hx, hb, hml, hown, hts⟩ (tX12_streetsOf l dC dI cy ad σ4 x1 H.size r6 hf7) (cwV 1 hts gX12_tooFew_X12_streetsOf rfl rfl rfl (by decide +kernel) ⟨Nat.le_of_ble_eq_true rfl, Nat.le_of_ble_eq_true rfl⟩) (wp_V hK hN hP hD (va_recv hK hP (ci := 12) (q0 := 0) rfl (wG_of (Nat.le_of_ble_eq_true rfl) rfl))) rfl rfl hl.1 rfl (lv_room (Nat.le_of_ble_eq_true rfl)) dX12_tooFew_31 ⟨Nat.le_of_ble_eq_true rfl, Nat.le_of_ble_eq_true rfl⟩) hD hS hA (fun H locs hP hD hS => ?_)
      refine lv_aload_n hx hb dX12_tooFew_34 rfl (lv_at hl 0 rfl) ?_
      refine ux_get (D := (dC, dI)) (ci := 12) (v := .ref (ad 11)) (C := RX12) (T := TX12) (M := 59) (fs := (oM ad (σ4.1 0))) hx hb hts (fun _ h9 => List.mem_cons_of_mem _ (List.mem_append_right _ h9)) hown hK hP 0 (Nat.le_of_ble_eq_true rfl) rfl rfl 13 (by decide) (hts (.fieldLink RX12 41 "SeatsRoundModel" "streets" "[I") (List.mem_of_getElem? (i := 2) rfl)) (fun _ h9 => h9) rfl dX12_tooFew_35 ?_
      refine lv_iload_n hx hb dX12_tooFew_38 rfl (lv_at hl 1 rfl) ?_
      refine ux_iald hx hb hK hP 11 0 (Nat.le_of_ble_eq_true rfl) (cM_11 _ _ _ _) rfl h dX12_tooFew_39 (fun v8 h => ?_)
      refine lv_icmp_ge (tgt := 47) hx hb dX12_tooFew_40 (by decide) (fun hcd => ?_) (fun hcd => ?_)
      · have h := cdP hcd h
        refine lv_iconst (v := 0) hx hb dX12_tooFew_47 (by decide) ?_
        exact w48 _ ih σ4 x1 x3 0 x2 H locs ls h hP hD hS (lv_sub hl [0, 1, 3] rfl)
      · have h := cdN hcd h
        refine lv_iconst (v := 1) hx hb dX12_tooFew_43 (by decide) ?_
        refine lv_goto (tgt := 48) hx hb dX12_tooFew_44 (by decide) ?_
        exact w48 _ ih σ4 x1 x3 1 x2 H locs ls h hP hD hS (lv_sub hl [0, 1, 3] rfl)
  have w0 : ∀ (σ : S2) (x1 : Int32) (H : Heap) (locs : List Loc) (ls : Array Slot), fX12_tooFew_0 σ x1 = some (r0, σ9) → va_P (dC, dI) vwCl (wG (cM cy ad) ad 40 σ) H → va_D A (wG (cM cy ad) ad 40 σ) → va_S A s.heap H locs → lv_has ls 4 [(0, .ref (ad 0)), (1, .int x1)] → W p l e (headSpec wsX12_tooFew ({ frames := 6, cells := 0, slots := 0, locals := 144 })).room s m (#[.ref (ad 0), .int a1]) below meth c H locs 0 0 (MQ below (va_Qi (fun (r : Int32) (_ : Unit) => r = r0) (fun (_ : Unit) t => wAt (dC, dI) A (wG (cM cy ad) ad 40 σ9) t) A) (#[.ref (ad 0), .int a1]) s 0 0 A) (F0 m 0 ls []) := by
    intro σ x1 H locs ls h hP hD hS hl
    unfold fX12_tooFew_0 at h
    refine lv_aload_n hx hb dX12_tooFew_0 rfl (lv_at hl 0 rfl) ?_
    refine lv_iload_n hx hb dX12_tooFew_1 rfl (lv_at hl 1 rfl) ?_
    obtain ⟨r9, hf10, h⟩ := biS h
    refine ux_calli (va_runV (As := [.int x1]) (rest := []) ⟨hx, hb, hml, hown, hts⟩ (tX12_isTable l dC dI cy ad σ x1 H.size r9 hf10) (cwV 1 hts gX12_tooFew_X12_isTable rfl rfl rfl (by decide +kernel) ⟨Nat.le_of_ble_eq_true rfl, Nat.le_of_ble_eq_true rfl⟩) (wp_V hK hN hP hD (va_recv hK hP (ci := 12) (q0 := 0) rfl (wG_of (Nat.le_of_ble_eq_true rfl) rfl))) rfl rfl hl.1 rfl (lv_room (Nat.le_of_ble_eq_true rfl)) dX12_tooFew_2 ⟨Nat.le_of_ble_eq_true rfl, Nat.le_of_ble_eq_true rfl⟩) hD hS hA (fun H locs hP hD hS => ?_)
    refine lv_if_ne (tgt := 10) hx hb dX12_tooFew_5 (by decide) (fun hcd => ?_) (fun hcd => ?_)
    · have h := cdN hcd h
      refine lv_iconst (v := 0) hx hb dX12_tooFew_10 (by decide) ?_
      refine lv_istore_n (lv' := [(2, .int 0), (0, .ref (ad 0)), (1, .int x1)]) hx hb dX12_tooFew_11 rfl hl (by decide) rfl (fun ls hl => ?_)
      have hl := lv_sub hl [1, 2, 0] (l' := [(0, .ref (ad 0)), (1, .int x1), (2, .int 0)]) rfl
      refine lv_iconst (v := 0) hx hb dX12_tooFew_12 (by decide) ?_
      refine lv_istore_n (lv' := [(3, .int 0), (0, .ref (ad 0)), (1, .int x1), (2, .int 0)]) hx hb dX12_tooFew_13 rfl hl (by decide) rfl (fun ls hl => ?_)
      have hl := lv_sub hl [1, 2, 3, 0] (l' := [(0, .ref (ad 0)), (1, .int x1), (2, .int 0), (3, .int 0)]) rfl
      exact w14 FU σ x1 0 0 H locs ls h hP hD hS hl
    · have h := cdP hcd h
      refine lv_iconst (v := (-1)) hx hb dX12_tooFew_8 (by decide) ?_
      exact ux_iret hx hb hr h hP hD hS hlocks dX12_tooFew_9
  intro H locs ls h hP hD hS hl
  exact w0 σ a1 H locs ls h hP hD hS (lv_sub hl [0, 1] rfl)

set_option maxHeartbeats 4000000 in
set_option maxRecDepth 100000 in
theorem tX12_shareOf (l : Launch) (dC : Nat → ClassId) (dI : Nat → Nat → Nat) (cy : Nat → ClassId) (ad : Nat → Nat) (σ : S2) (a1 : Int32) (a2 : Int32) (sz : Nat) (r0 : Int32) (σ9 : S2) (h : fX12_shareOf σ a1 a2 = some (r0, σ9)) : Met l yX12_shareOf wsX12_shareOf ({ frames := 4, cells := 0, slots := 0, locals := 96 }) (va_Pc [.ref (ad 0), .int a1, .int a2] (wPre (dC, dI) cy (wG (cM cy ad) ad 40 σ) sz)) (va_Qi (fun (r : Int32) (_ : Unit) => r = r0) (fun (_ : Unit) t => wAt (dC, dI) (va_A (wG (cM cy ad) ad 40 σ) sz) (wG (cM cy ad) ad 40 σ9) t) (va_A (wG (cM cy ad) ad 40 σ) sz)) 0 0 (va_A (wG (cM cy ad) ad 40 σ) sz) := by
  refine Met.ofW (cc := cX12_shareOf) (maxL := 5) (ret := (some .int)) (by decide) rfl ?_
  intro p e s m args below meth c s₁ B hml hv
  obtain ⟨rfl, hsz, hP, hK, hD0, hN⟩ := hv
  have hx := B.exec
  have hb := B.bytes
  have hr := B.returns
  have hts := atoms_spec (ws := wsX12_shareOf) B.pre
  have hown : s.vm.findClass RX12 = some m.cls := findClass_of_methodNamed B.named
  have hlocks := B.notSynchronized
  subst hsz
  have hD := hD0.self (sz := s.heap.size)
  generalize hAe : va_A (wG (cM cy ad) ad 40 σ) s.heap.size = A at hD ⊢
  have hA : ∀ q : Nat, s.heap.size ≤ q → A q := fun q h => by rw [← hAe]; exact Or.inr h
  have hS : va_S A s.heap s.heap [] := va_S.rf
  have hl := lv_entry ([.ref (ad 0), .int a1, .int a2]) (n := 5) (Nat.le_of_ble_eq_true rfl)
  rw [lg_entry_eq]
  generalize (lg_sl ([.ref (ad 0), .int a1, .int a2]) ++ List.replicate (5 - (lg_sl ([.ref (ad 0), .int a1, .int a2])).length) Slot.unset).toArray = ls at hl ⊢
  have hl : lv_has ls 5 [(0, .ref (ad 0)), (1, .int a1), (2, .int a2)] := hl
  unfold fX12_shareOf at h
  clear hAe hD0
  suffices HH : ∀ (H : Heap) (locs : List Loc) (ls : Array Slot), fX12_shareOf_0 σ a1 a2 = some (r0, σ9) → va_P (dC, dI) vwCl (wG (cM cy ad) ad 40 σ) H → va_D A (wG (cM cy ad) ad 40 σ) → va_S A s.heap H locs → lv_has ls 5 [(0, .ref (ad 0)), (1, .int a1), (2, .int a2)] → W p l e (headSpec wsX12_shareOf ({ frames := 4, cells := 0, slots := 0, locals := 96 })).room s m (#[.ref (ad 0), .int a1, .int a2]) below meth c H locs 0 0 (MQ below (va_Qi (fun (r : Int32) (_ : Unit) => r = r0) (fun (_ : Unit) t => wAt (dC, dI) A (wG (cM cy ad) ad 40 σ9) t) A) (#[.ref (ad 0), .int a1, .int a2]) s 0 0 A) (F0 m 0 ls []) from HH s.heap [] ls h hP hD hS hl
  have w47 : ∀ (k5 : S2 → Int32 → Int32 → Int32 → Int32 → Option (Int32 × S2)) (hk5 : ∀ (σ : S2) (x1 : Int32) (x2 : Int32) (x3 : Int32) (x4 : Int32) (H : Heap) (locs : List Loc) (ls : Array Slot), k5 σ x1 x2 x3 x4 = some (r0, σ9) → va_P (dC, dI) vwCl (wG (cM cy ad) ad 40 σ) H → va_D A (wG (cM cy ad) ad 40 σ) → va_S A s.heap H locs → lv_has ls 5 [(0, .ref (ad 0)), (1, .int x1), (2, .int x2), (3, .int x3), (4, .int x4)] → W p l e (headSpec wsX12_shareOf ({ frames := 4, cells := 0, slots := 0, locals := 96 })).room s m (#[.ref (ad 0), .int a1, .int a2]) below meth c H locs 0 0 (MQ below (va_Qi (fun (r : Int32) (_ : Unit) => r = r0) (fun (_ : Unit) t => wAt (dC, dI) A (wG (cM cy ad) ad 40 σ9) t) A) (#[.ref (ad 0), .int a1, .int a2]) s 0 0 A) (F0 m 5 ls [])) , ∀ (σ : S2) (x1 : Int32) (x2 : Int32) (x4 : Int32) (s0 : Int32) (s1 : Int32) (H : Heap) (locs : List Loc) (ls : Array Slot), fX12_shareOf_47 k5 σ x1 x2 x4 s0 s1 = some (r0, σ9) → va_P (dC, dI) vwCl (wG (cM cy ad) ad 40 σ) H → va_D A (wG (cM cy ad) ad 40 σ) → va_S A s.heap H locs → lv_has ls 5 [(0, .ref (ad 0)), (1, .int x1), (2, .int x2), (4, .int x4)] → W p l e (headSpec wsX12_shareOf ({ frames := 4, cells := 0, slots := 0, locals := 96 })).room s m (#[.ref (ad 0), .int a1, .int a2]) below meth c H locs 0 0 (MQ below (va_Qi (fun (r : Int32) (_ : Unit) => r = r0) (fun (_ : Unit) t => wAt (dC, dI) A (wG (cM cy ad) ad 40 σ9) t) A) (#[.ref (ad 0), .int a1, .int a2]) s 0 0 A) (F0 m 47 ls [.int s0, .int s1]) := by
    intro k5 hk5 σ x1 x2 x4 s0 s1 H locs ls h hP hD hS hl
    unfold fX12_shareOf_47 at h
    refine lv_iadd hx hb dX12_shareOf_47 ?_
    refine lv_topi (fun v1 ev1 => ?_)
    have h := nmS h ev1
    refine lv_istore_n (lv' := [(3, .int v1), (0, .ref (ad 0)), (1, .int x1), (2, .int x2), (4, .int x4)]) hx hb dX12_shareOf_48 rfl hl (by decide) rfl (fun ls hl => ?_)
    have hl := lv_sub hl [1, 2, 3, 0, 4] (l' := [(0, .ref (ad 0)), (1, .int x1), (2, .int x2), (3, .int v1), (4, .int x4)]) rfl
    obtain ⟨v2, ev2⟩ : ∃ y : Int32, y = x4 + 1 := ⟨_, rfl⟩
    have h := nmS h ev2
    refine lv_iinc (v := v2) (lv' := [(4, .int v2), (0, .ref (ad 0)), (1, .int x1), (2, .int x2), (3, .int v1)]) hx hb dX12_shareOf_49 hl (k := 4) rfl (by rw [ev2]; rfl) (by decide) rfl (fun ls hl => ?_)
    have hl := lv_sub hl [1, 2, 3, 4, 0] (l' := [(0, .ref (ad 0)), (1, .int x1), (2, .int x2), (3, .int v1), (4, .int v2)]) rfl
    refine lv_goto (tgt := 5) hx hb dX12_shareOf_52 (by decide) ?_
    exact hk5 σ x1 x2 v1 v2 H locs ls h hP hD hS hl
  have w5 : ∀ (n : Nat), ∀ (σ : S2) (x1 : Int32) (x2 : Int32) (x3 : Int32) (x4 : Int32) (H : Heap) (locs : List Loc) (ls : Array Slot), fX12_shareOf_5 n σ x1 x2 x3 x4 = some (r0, σ9) → va_P (dC, dI) vwCl (wG (cM cy ad) ad 40 σ) H → va_D A (wG (cM cy ad) ad 40 σ) → va_S A s.heap H locs → lv_has ls 5 [(0, .ref (ad 0)), (1, .int x1), (2, .int x2), (3, .int x3), (4, .int x4)] → W p l e (headSpec wsX12_shareOf ({ frames := 4, cells := 0, slots := 0, locals := 96 })).room s m (#[.ref (ad 0), .int a1, .int a2]) below meth c H locs 0 0 (MQ below (va_Qi (fun (r : Int32) (_ : Unit) => r = r0) (fun (_ : Unit) t => wAt (dC, dI) A (wG (cM cy ad) ad 40 σ9) t) A) (#[.ref (ad 0), .int a1, .int a2]) s 0 0 A) (F0 m 5 ls []) := by
    intro n
    induction n with
    | zero => intro σ x1 x2 x3 x4 H locs ls h; cases h
    | succ n ih =>
    intro σ x1 x2 x3 x4 H locs ls h hP hD hS hl
    unfold fX12_shareOf_5 at h
    refine lv_iload hx hb dX12_shareOf_5 (lv_at hl 4 rfl) ?_
    refine lv_aload_n hx hb dX12_shareOf_7 rfl (lv_at hl 0 rfl) ?_
    refine ux_get (D := (dC, dI)) (ci := 12) (v := .int (σ.1 0 0)) (C := RX12) (T := TX12) (M := 59) (fs := (oM ad (σ.1 0))) hx hb hts (fun _ h9 => List.mem_cons_of_mem _ (List.mem_append_right _ h9)) hown hK hP 0 (Nat.le_of_ble_eq_true rfl) rfl rfl 0 (by decide) (hts (.fieldLink RX12 133 "SeatsRoundModel" "names" "I") (List.mem_of_getElem? (i := 1) rfl)) (fun _ h9 => h9) rfl dX12_shareOf_8 ?_
    refine lv_icmp_ge (tgt := 55) hx hb dX12_shareOf_11 (by decide) (fun hcd => ?_) (fun hcd => ?_)
    · have h := cdP hcd h
      refine lv_iload_n hx hb dX12_shareOf_55 rfl (lv_at hl 3 rfl) ?_
      exact ux_iret hx hb hr h hP hD hS hlocks dX12_shareOf_56
    · have h := cdN hcd h
      refine lv_aload_n hx hb dX12_shareOf_14 rfl (lv_at hl 0 rfl) ?_
      refine lv_iload_n hx hb dX12_shareOf_15 rfl (lv_at hl 1 rfl) ?_
      refine lv_aload_n hx hb dX12_shareOf_16 rfl (lv_at hl 0 rfl) ?_
      refine lv_iload hx hb dX12_shareOf_17 (lv_at hl 4 rfl) ?_
      refine lv_aload_n hx hb dX12_shareOf_19 rfl (lv_at hl 0 rfl) ?_
      refine ux_get (D := (dC, dI)) (ci := 12) (v := .ref (ad 9)) (C := RX12) (T := TX12) (M := 59) (fs := (oM ad (σ.1 0))) hx hb hts (fun _ h9 => List.mem_cons_of_mem _ (List.mem_append_right _ h9)) hown hK hP 0 (Nat.le_of_ble_eq_true rfl) rfl rfl 11 (by decide) (hts (.fieldLink RX12 35 "SeatsRoundModel" "tableZ" "[I") (List.mem_of_getElem? (i := 2) rfl)) (fun _ h9 => h9) rfl dX12_shareOf_20 ?_
      refine lv_iload_n hx hb dX12_shareOf_23 rfl (lv_at hl 1 rfl) ?_
      refine ux_iald hx hb hK hP 9 0 (Nat.le_of_ble_eq_true rfl) (cM_9 _ _ _ _) rfl h dX12_shareOf_24 (fun v3 h => ?_)
      change W _ _ _ _ _ _ _ _ _ _ _ _ _ _ _ (F0 m 25 ls [.int v3, .int x4, .ref (ad 0), .int x1, .ref (ad 0)])
      obtain ⟨r4, hf5, h⟩ := biS h
      refine ux_calli (va_runV (As := [.int x4, .int v3]) (rest := [.int x1, .ref (ad 0)]) ⟨hx, hb, hml, hown, hts⟩ (tX12_numberOf l dC dI cy ad σ x4 v3 H.size r4 hf5) (cwV 2 hts gX12_shareOf_X12_numberOf rfl rfl rfl (by decide +kernel) ⟨Nat.le_of_ble_eq_true rfl, Nat.le_of_ble_eq_true rfl⟩) (wp_V hK hN hP hD (va_recv hK hP (ci := 12) (q0 := 0) rfl (wG_of (Nat.le_of_ble_eq_true rfl) rfl))) rfl rfl hl.1 rfl (lv_room (Nat.le_of_ble_eq_true rfl)) dX12_shareOf_25 ⟨Nat.le_of_ble_eq_true rfl, Nat.le_of_ble_eq_true rfl⟩) hD hS hA (fun H locs hP hD hS => ?_)
      obtain ⟨r6, σ7, hf8, h⟩ := bsS h
      refine ux_callv (va_runV (As := [.int x1, .int r4]) (rest := []) ⟨hx, hb, hml, hown, hts⟩ (tX12_pick l dC dI cy ad σ x1 r4 H.size r6 σ7 hf8) (cwV 2 hts gX12_shareOf_X12_pick rfl rfl rfl (by decide +kernel) ⟨Nat.le_of_ble_eq_true rfl, Nat.le_of_ble_eq_true rfl⟩) (wp_V hK hN hP hD (va_recv hK hP (ci := 12) (q0 := 0) rfl (wG_of (Nat.le_of_ble_eq_true rfl) rfl))) rfl rfl hl.1 rfl (lv_room (Nat.le_of_ble_eq_true rfl)) dX12_shareOf_28 ⟨Nat.le_of_ble_eq_true rfl, Nat.le_of_ble_eq_true rfl⟩) hD hS hA (fun H locs hP hD hS => ?_)
      refine lv_iload_n hx hb dX12_shareOf_31 rfl (lv_at hl 3 rfl) ?_
      refine lv_aload_n hx hb dX12_shareOf_32 rfl (lv_at hl 0 rfl) ?_
      refine ux_get (D := (dC, dI)) (ci := 12) (v := .ref (ad 35)) (C := RX12) (T := TX12) (M := 59) (fs := (oM ad (σ7.1 0))) hx hb hts (fun _ h9 => List.mem_cons_of_mem _ (List.mem_append_right _ h9)) hown hK hP 0 (Nat.le_of_ble_eq_true rfl) rfl rfl 52 (by decide) (hts (.fieldLink RX12 118 "SeatsRoundModel" "picked" "[I") (List.mem_of_getElem? (i := 3) rfl)) (fun _ h9 => h9) rfl dX12_shareOf_33 ?_
      refine lv_iconst (v := 0) hx hb dX12_shareOf_36 (by decide) ?_
      refine ux_iald hx hb hK hP 35 0 (Nat.le_of_ble_eq_true rfl) (cM_35 _ _ _ _) rfl h dX12_shareOf_37 (fun v9 h => ?_)
      refine lv_iload_n hx hb dX12_shareOf_38 rfl (lv_at hl 2 rfl) ?_
      refine lv_icmp_ne (tgt := 46) hx hb dX12_shareOf_39 (by decide) (fun hcd => ?_) (fun hcd => ?_)
      · have h := cdN hcd h
        refine lv_iconst (v := 0) hx hb dX12_shareOf_46 (by decide) ?_
        exact w47 _ ih σ7 x1 x2 x4 0 x3 H locs ls h hP hD hS (lv_sub hl [0, 1, 2, 4] rfl)
      · have h := cdP hcd h
        refine lv_iconst (v := 1) hx hb dX12_shareOf_42 (by decide) ?_
        refine lv_goto (tgt := 47) hx hb dX12_shareOf_43 (by decide) ?_
        exact w47 _ ih σ7 x1 x2 x4 1 x3 H locs ls h hP hD hS (lv_sub hl [0, 1, 2, 4] rfl)
  have w0 : ∀ (σ : S2) (x1 : Int32) (x2 : Int32) (H : Heap) (locs : List Loc) (ls : Array Slot), fX12_shareOf_0 σ x1 x2 = some (r0, σ9) → va_P (dC, dI) vwCl (wG (cM cy ad) ad 40 σ) H → va_D A (wG (cM cy ad) ad 40 σ) → va_S A s.heap H locs → lv_has ls 5 [(0, .ref (ad 0)), (1, .int x1), (2, .int x2)] → W p l e (headSpec wsX12_shareOf ({ frames := 4, cells := 0, slots := 0, locals := 96 })).room s m (#[.ref (ad 0), .int a1, .int a2]) below meth c H locs 0 0 (MQ below (va_Qi (fun (r : Int32) (_ : Unit) => r = r0) (fun (_ : Unit) t => wAt (dC, dI) A (wG (cM cy ad) ad 40 σ9) t) A) (#[.ref (ad 0), .int a1, .int a2]) s 0 0 A) (F0 m 0 ls []) := by
    intro σ x1 x2 H locs ls h hP hD hS hl
    unfold fX12_shareOf_0 at h
    refine lv_iconst (v := 0) hx hb dX12_shareOf_0 (by decide) ?_
    refine lv_istore_n (lv' := [(3, .int 0), (0, .ref (ad 0)), (1, .int x1), (2, .int x2)]) hx hb dX12_shareOf_1 rfl hl (by decide) rfl (fun ls hl => ?_)
    have hl := lv_sub hl [1, 2, 3, 0] (l' := [(0, .ref (ad 0)), (1, .int x1), (2, .int x2), (3, .int 0)]) rfl
    refine lv_iconst (v := 0) hx hb dX12_shareOf_2 (by decide) ?_
    refine lv_istore (lv' := [(4, .int 0), (0, .ref (ad 0)), (1, .int x1), (2, .int x2), (3, .int 0)]) hx hb dX12_shareOf_3 hl (by decide) rfl (fun ls hl => ?_)
    have hl := lv_sub hl [1, 2, 3, 4, 0] (l' := [(0, .ref (ad 0)), (1, .int x1), (2, .int x2), (3, .int 0), (4, .int 0)]) rfl
    exact w5 FU σ x1 x2 0 0 H locs ls h hP hD hS hl
  intro H locs ls h hP hD hS hl
  exact w0 σ a1 a2 H locs ls h hP hD hS (lv_sub hl [0, 1, 2] rfl)

set_option maxHeartbeats 4000000 in
set_option maxRecDepth 100000 in
theorem tX12_findOdds (l : Launch) (dC : Nat → ClassId) (dI : Nat → Nat → Nat) (cy : Nat → ClassId) (ad : Nat → Nat) (σ : S2) (a1 : Int32) (sz : Nat) (r0 : Unit) (σ9 : S2) (h : fX12_findOdds σ a1 = some (r0, σ9)) : Met l yX12_findOdds wsX12_findOdds ({ frames := 4, cells := 0, slots := 0, locals := 96 }) (va_Pc [.ref (ad 0), .int a1] (wPre (dC, dI) cy (wG (cM cy ad) ad 40 σ) sz)) (va_Qv (fun (_ : Unit) => True) (fun (_ : Unit) t => wAt (dC, dI) (va_A (wG (cM cy ad) ad 40 σ) sz) (wG (cM cy ad) ad 40 σ9) t) (va_A (wG (cM cy ad) ad 40 σ) sz)) 0 0 (va_A (wG (cM cy ad) ad 40 σ) sz) := by
  refine Met.ofW (cc := cX12_findOdds) (maxL := 3) (ret := none) (by decide) rfl ?_
  intro p e s m args below meth c s₁ B hml hv
  obtain ⟨rfl, hsz, hP, hK, hD0, hN⟩ := hv
  have hx := B.exec
  have hb := B.bytes
  have hr := B.returns
  have hts := atoms_spec (ws := wsX12_findOdds) B.pre
  have hown : s.vm.findClass RX12 = some m.cls := findClass_of_methodNamed B.named
  have hlocks := B.notSynchronized
  subst hsz
  have hD := hD0.self (sz := s.heap.size)
  generalize hAe : va_A (wG (cM cy ad) ad 40 σ) s.heap.size = A at hD ⊢
  have hA : ∀ q : Nat, s.heap.size ≤ q → A q := fun q h => by rw [← hAe]; exact Or.inr h
  have hS : va_S A s.heap s.heap [] := va_S.rf
  have hl := lv_entry ([.ref (ad 0), .int a1]) (n := 3) (Nat.le_of_ble_eq_true rfl)
  rw [lg_entry_eq]
  generalize (lg_sl ([.ref (ad 0), .int a1]) ++ List.replicate (3 - (lg_sl ([.ref (ad 0), .int a1])).length) Slot.unset).toArray = ls at hl ⊢
  have hl : lv_has ls 3 [(0, .ref (ad 0)), (1, .int a1)] := hl
  unfold fX12_findOdds at h
  clear hAe hD0
  suffices HH : ∀ (H : Heap) (locs : List Loc) (ls : Array Slot), fX12_findOdds_0 σ a1 = some (r0, σ9) → va_P (dC, dI) vwCl (wG (cM cy ad) ad 40 σ) H → va_D A (wG (cM cy ad) ad 40 σ) → va_S A s.heap H locs → lv_has ls 3 [(0, .ref (ad 0)), (1, .int a1)] → W p l e (headSpec wsX12_findOdds ({ frames := 4, cells := 0, slots := 0, locals := 96 })).room s m (#[.ref (ad 0), .int a1]) below meth c H locs 0 0 (MQ below (va_Qv (fun (_ : Unit) => True) (fun (_ : Unit) t => wAt (dC, dI) A (wG (cM cy ad) ad 40 σ9) t) A) (#[.ref (ad 0), .int a1]) s 0 0 A) (F0 m 0 ls []) from HH s.heap [] ls h hP hD hS hl
  have w23 : ∀ (n : Nat), ∀ (σ : S2) (x1 : Int32) (x2 : Int32) (H : Heap) (locs : List Loc) (ls : Array Slot), fX12_findOdds_23 n σ x1 x2 = some (r0, σ9) → va_P (dC, dI) vwCl (wG (cM cy ad) ad 40 σ) H → va_D A (wG (cM cy ad) ad 40 σ) → va_S A s.heap H locs → lv_has ls 3 [(0, .ref (ad 0)), (1, .int x1), (2, .int x2)] → W p l e (headSpec wsX12_findOdds ({ frames := 4, cells := 0, slots := 0, locals := 96 })).room s m (#[.ref (ad 0), .int a1]) below meth c H locs 0 0 (MQ below (va_Qv (fun (_ : Unit) => True) (fun (_ : Unit) t => wAt (dC, dI) A (wG (cM cy ad) ad 40 σ9) t) A) (#[.ref (ad 0), .int a1]) s 0 0 A) (F0 m 23 ls []) := by
    intro n
    induction n with
    | zero => intro σ x1 x2 H locs ls h; cases h
    | succ n ih =>
    intro σ x1 x2 H locs ls h hP hD hS hl
    unfold fX12_findOdds_23 at h
    refine lv_iload_n hx hb dX12_findOdds_23 rfl (lv_at hl 2 rfl) ?_
    refine lv_sipush (v := 1000) hx hb dX12_findOdds_24 (by decide) ?_
    refine lv_icmp_ge (tgt := 57) hx hb dX12_findOdds_27 (by decide) (fun hcd => ?_) (fun hcd => ?_)
    · have h := cdP hcd h
      exact ux_vret hx hb hr h hP hD hS hlocks dX12_findOdds_57
    · have h := cdN hcd h
      refine lv_aload_n hx hb dX12_findOdds_30 rfl (lv_at hl 0 rfl) ?_
      refine lv_iload_n hx hb dX12_findOdds_31 rfl (lv_at hl 1 rfl) ?_
      refine lv_iload_n hx hb dX12_findOdds_32 rfl (lv_at hl 2 rfl) ?_
      obtain ⟨r1, σ2, hf3, h⟩ := bsS h
      refine ux_callv (va_runV (As := [.int x1, .int x2]) (rest := []) ⟨hx, hb, hml, hown, hts⟩ (tX12_pick l dC dI cy ad σ x1 x2 H.size r1 σ2 hf3) (cwV 2 hts gX12_findOdds_X12_pick rfl rfl rfl (by decide +kernel) ⟨Nat.le_of_ble_eq_true rfl, Nat.le_of_ble_eq_true rfl⟩) (wp_V hK hN hP hD (va_recv hK hP (ci := 12) (q0 := 0) rfl (wG_of (Nat.le_of_ble_eq_true rfl) rfl))) rfl rfl hl.1 rfl (lv_room (Nat.le_of_ble_eq_true rfl)) dX12_findOdds_33 ⟨Nat.le_of_ble_eq_true rfl, Nat.le_of_ble_eq_true rfl⟩) hD hS hA (fun H locs hP hD hS => ?_)
      refine lv_aload_n hx hb dX12_findOdds_36 rfl (lv_at hl 0 rfl) ?_
      refine ux_get (D := (dC, dI)) (ci := 12) (v := .ref (ad 37)) (C := RX12) (T := TX12) (M := 59) (fs := (oM ad (σ2.1 0))) hx hb hts (fun _ h9 => List.mem_cons_of_mem _ (List.mem_append_right _ h9)) hown hK hP 0 (Nat.le_of_ble_eq_true rfl) rfl rfl 56 (by decide) (hts (.fieldLink RX12 124 "SeatsRoundModel" "odds" "[I") (List.mem_of_getElem? (i := 1) rfl)) (fun _ h9 => h9) rfl dX12_findOdds_37 ?_
      refine lv_aload_n hx hb dX12_findOdds_40 rfl (lv_at hl 0 rfl) ?_
      refine ux_get (D := (dC, dI)) (ci := 12) (v := .ref (ad 35)) (C := RX12) (T := TX12) (M := 59) (fs := (oM ad (σ2.1 0))) hx hb hts (fun _ h9 => List.mem_cons_of_mem _ (List.mem_append_right _ h9)) hown hK hP 0 (Nat.le_of_ble_eq_true rfl) rfl rfl 52 (by decide) (hts (.fieldLink RX12 118 "SeatsRoundModel" "picked" "[I") (List.mem_of_getElem? (i := 2) rfl)) (fun _ h9 => h9) rfl dX12_findOdds_41 ?_
      refine lv_iconst (v := 0) hx hb dX12_findOdds_44 (by decide) ?_
      refine ux_iald hx hb hK hP 35 0 (Nat.le_of_ble_eq_true rfl) (cM_35 _ _ _ _) rfl h dX12_findOdds_45 (fun v4 h => ?_)
      refine lv_dup2_11 hx hb dX12_findOdds_46 rfl rfl ?_
      refine ux_iald hx hb hK hP 37 0 (Nat.le_of_ble_eq_true rfl) (cM_37 _ _ _ _) rfl h dX12_findOdds_47 (fun v5 h => ?_)
      refine lv_iconst (v := 1) hx hb dX12_findOdds_48 (by decide) ?_
      refine lv_iadd hx hb dX12_findOdds_49 ?_
      refine ux_iast hx hb hK hP hD hS 37 0 (Nat.le_of_ble_eq_true rfl) (fun _ => (cM_37 _ _ _ _)) rfl h dX12_findOdds_50 (fun σ6 H locs h hP hD hS => ?_)
      obtain ⟨v7, ev7⟩ : ∃ y : Int32, y = x2 + 1 := ⟨_, rfl⟩
      have h := nmS h ev7
      refine lv_iinc (v := v7) (lv' := [(2, .int v7), (0, .ref (ad 0)), (1, .int x1)]) hx hb dX12_findOdds_51 hl (k := 2) rfl (by rw [ev7]; rfl) (by decide) rfl (fun ls hl => ?_)
      have hl := lv_sub hl [1, 2, 0] (l' := [(0, .ref (ad 0)), (1, .int x1), (2, .int v7)]) rfl
      refine lv_goto (tgt := 23) hx hb dX12_findOdds_54 (by decide) ?_
      exact ih σ6 x1 v7 H locs ls h hP hD hS hl
  have w2 : ∀ (n : Nat), ∀ (σ : S2) (x1 : Int32) (x2 : Int32) (H : Heap) (locs : List Loc) (ls : Array Slot), fX12_findOdds_2 n σ x1 x2 = some (r0, σ9) → va_P (dC, dI) vwCl (wG (cM cy ad) ad 40 σ) H → va_D A (wG (cM cy ad) ad 40 σ) → va_S A s.heap H locs → lv_has ls 3 [(0, .ref (ad 0)), (1, .int x1), (2, .int x2)] → W p l e (headSpec wsX12_findOdds ({ frames := 4, cells := 0, slots := 0, locals := 96 })).room s m (#[.ref (ad 0), .int a1]) below meth c H locs 0 0 (MQ below (va_Qv (fun (_ : Unit) => True) (fun (_ : Unit) t => wAt (dC, dI) A (wG (cM cy ad) ad 40 σ9) t) A) (#[.ref (ad 0), .int a1]) s 0 0 A) (F0 m 2 ls []) := by
    intro n
    induction n with
    | zero => intro σ x1 x2 H locs ls h; cases h
    | succ n ih =>
    intro σ x1 x2 H locs ls h hP hD hS hl
    unfold fX12_findOdds_2 at h
    refine lv_iload_n hx hb dX12_findOdds_2 rfl (lv_at hl 2 rfl) ?_
    refine lv_bipush (v := 12) hx hb dX12_findOdds_3 (by decide) ?_
    refine lv_icmp_ge (tgt := 21) hx hb dX12_findOdds_5 (by decide) (fun hcd => ?_) (fun hcd => ?_)
    · have h := cdP hcd h
      refine lv_iconst (v := 0) hx hb dX12_findOdds_21 (by decide) ?_
      refine lv_istore_n (lv' := [(2, .int 0), (0, .ref (ad 0)), (1, .int x1)]) hx hb dX12_findOdds_22 rfl hl (by decide) rfl (fun ls hl => ?_)
      have hl := lv_sub hl [1, 2, 0] (l' := [(0, .ref (ad 0)), (1, .int x1), (2, .int 0)]) rfl
      exact w23 FU σ x1 0 H locs ls h hP hD hS hl
    · have h := cdN hcd h
      refine lv_aload_n hx hb dX12_findOdds_8 rfl (lv_at hl 0 rfl) ?_
      refine ux_get (D := (dC, dI)) (ci := 12) (v := .ref (ad 37)) (C := RX12) (T := TX12) (M := 59) (fs := (oM ad (σ.1 0))) hx hb hts (fun _ h9 => List.mem_cons_of_mem _ (List.mem_append_right _ h9)) hown hK hP 0 (Nat.le_of_ble_eq_true rfl) rfl rfl 56 (by decide) (hts (.fieldLink RX12 124 "SeatsRoundModel" "odds" "[I") (List.mem_of_getElem? (i := 1) rfl)) (fun _ h9 => h9) rfl dX12_findOdds_9 ?_
      refine lv_iload_n hx hb dX12_findOdds_12 rfl (lv_at hl 2 rfl) ?_
      refine lv_iconst (v := 0) hx hb dX12_findOdds_13 (by decide) ?_
      refine ux_iast hx hb hK hP hD hS 37 0 (Nat.le_of_ble_eq_true rfl) (fun _ => (cM_37 _ _ _ _)) rfl h dX12_findOdds_14 (fun σ8 H locs h hP hD hS => ?_)
      obtain ⟨v9, ev9⟩ : ∃ y : Int32, y = x2 + 1 := ⟨_, rfl⟩
      have h := nmS h ev9
      refine lv_iinc (v := v9) (lv' := [(2, .int v9), (0, .ref (ad 0)), (1, .int x1)]) hx hb dX12_findOdds_15 hl (k := 2) rfl (by rw [ev9]; rfl) (by decide) rfl (fun ls hl => ?_)
      have hl := lv_sub hl [1, 2, 0] (l' := [(0, .ref (ad 0)), (1, .int x1), (2, .int v9)]) rfl
      refine lv_goto (tgt := 2) hx hb dX12_findOdds_18 (by decide) ?_
      exact ih σ8 x1 v9 H locs ls h hP hD hS hl
  have w0 : ∀ (σ : S2) (x1 : Int32) (H : Heap) (locs : List Loc) (ls : Array Slot), fX12_findOdds_0 σ x1 = some (r0, σ9) → va_P (dC, dI) vwCl (wG (cM cy ad) ad 40 σ) H → va_D A (wG (cM cy ad) ad 40 σ) → va_S A s.heap H locs → lv_has ls 3 [(0, .ref (ad 0)), (1, .int x1)] → W p l e (headSpec wsX12_findOdds ({ frames := 4, cells := 0, slots := 0, locals := 96 })).room s m (#[.ref (ad 0), .int a1]) below meth c H locs 0 0 (MQ below (va_Qv (fun (_ : Unit) => True) (fun (_ : Unit) t => wAt (dC, dI) A (wG (cM cy ad) ad 40 σ9) t) A) (#[.ref (ad 0), .int a1]) s 0 0 A) (F0 m 0 ls []) := by
    intro σ x1 H locs ls h hP hD hS hl
    unfold fX12_findOdds_0 at h
    refine lv_iconst (v := 0) hx hb dX12_findOdds_0 (by decide) ?_
    refine lv_istore_n (lv' := [(2, .int 0), (0, .ref (ad 0)), (1, .int x1)]) hx hb dX12_findOdds_1 rfl hl (by decide) rfl (fun ls hl => ?_)
    have hl := lv_sub hl [1, 2, 0] (l' := [(0, .ref (ad 0)), (1, .int x1), (2, .int 0)]) rfl
    exact w2 FU σ x1 0 H locs ls h hP hD hS hl
  intro H locs ls h hP hD hS hl
  exact w0 σ a1 H locs ls h hP hD hS (lv_sub hl [0, 1] rfl)

set_option maxHeartbeats 4000000 in
set_option maxRecDepth 100000 in
theorem tX12_share (l : Launch) (dC : Nat → ClassId) (dI : Nat → Nat → Nat) (cy : Nat → ClassId) (ad : Nat → Nat) (σ : S2) (a1 : Int32) (a2 : Int32) (a3 : Int32) (sz : Nat) (r0 : Int32) (σ9 : S2) (h : fX12_share σ a1 a2 a3 = some (r0, σ9)) : Met l yX12_share wsX12_share ({ frames := 5, cells := 0, slots := 0, locals := 120 }) (va_Pc [.ref (ad 0), .int a1, .int a2, .int a3] (wPre (dC, dI) cy (wG (cM cy ad) ad 40 σ) sz)) (va_Qi (fun (r : Int32) (_ : Unit) => r = r0) (fun (_ : Unit) t => wAt (dC, dI) (va_A (wG (cM cy ad) ad 40 σ) sz) (wG (cM cy ad) ad 40 σ9) t) (va_A (wG (cM cy ad) ad 40 σ) sz)) 0 0 (va_A (wG (cM cy ad) ad 40 σ) sz) := by
  refine Met.ofW (cc := cX12_share) (maxL := 4) (ret := (some .int)) (by decide) rfl ?_
  intro p e s m args below meth c s₁ B hml hv
  obtain ⟨rfl, hsz, hP, hK, hD0, hN⟩ := hv
  have hx := B.exec
  have hb := B.bytes
  have hr := B.returns
  have hts := atoms_spec (ws := wsX12_share) B.pre
  have hown : s.vm.findClass RX12 = some m.cls := findClass_of_methodNamed B.named
  have hlocks := B.notSynchronized
  subst hsz
  have hD := hD0.self (sz := s.heap.size)
  generalize hAe : va_A (wG (cM cy ad) ad 40 σ) s.heap.size = A at hD ⊢
  have hA : ∀ q : Nat, s.heap.size ≤ q → A q := fun q h => by rw [← hAe]; exact Or.inr h
  have hS : va_S A s.heap s.heap [] := va_S.rf
  have hl := lv_entry ([.ref (ad 0), .int a1, .int a2, .int a3]) (n := 4) (Nat.le_of_ble_eq_true rfl)
  rw [lg_entry_eq]
  generalize (lg_sl ([.ref (ad 0), .int a1, .int a2, .int a3]) ++ List.replicate (4 - (lg_sl ([.ref (ad 0), .int a1, .int a2, .int a3])).length) Slot.unset).toArray = ls at hl ⊢
  have hl : lv_has ls 4 [(0, .ref (ad 0)), (1, .int a1), (2, .int a2), (3, .int a3)] := hl
  unfold fX12_share at h
  clear hAe hD0
  suffices HH : ∀ (H : Heap) (locs : List Loc) (ls : Array Slot), fX12_share_0 σ a1 a2 a3 = some (r0, σ9) → va_P (dC, dI) vwCl (wG (cM cy ad) ad 40 σ) H → va_D A (wG (cM cy ad) ad 40 σ) → va_S A s.heap H locs → lv_has ls 4 [(0, .ref (ad 0)), (1, .int a1), (2, .int a2), (3, .int a3)] → W p l e (headSpec wsX12_share ({ frames := 5, cells := 0, slots := 0, locals := 120 })).room s m (#[.ref (ad 0), .int a1, .int a2, .int a3]) below meth c H locs 0 0 (MQ below (va_Qi (fun (r : Int32) (_ : Unit) => r = r0) (fun (_ : Unit) t => wAt (dC, dI) A (wG (cM cy ad) ad 40 σ9) t) A) (#[.ref (ad 0), .int a1, .int a2, .int a3]) s 0 0 A) (F0 m 0 ls []) from HH s.heap [] ls h hP hD hS hl
  have w0 : ∀ (σ : S2) (x1 : Int32) (x2 : Int32) (x3 : Int32) (H : Heap) (locs : List Loc) (ls : Array Slot), fX12_share_0 σ x1 x2 x3 = some (r0, σ9) → va_P (dC, dI) vwCl (wG (cM cy ad) ad 40 σ) H → va_D A (wG (cM cy ad) ad 40 σ) → va_S A s.heap H locs → lv_has ls 4 [(0, .ref (ad 0)), (1, .int x1), (2, .int x2), (3, .int x3)] → W p l e (headSpec wsX12_share ({ frames := 5, cells := 0, slots := 0, locals := 120 })).room s m (#[.ref (ad 0), .int a1, .int a2, .int a3]) below meth c H locs 0 0 (MQ below (va_Qi (fun (r : Int32) (_ : Unit) => r = r0) (fun (_ : Unit) t => wAt (dC, dI) A (wG (cM cy ad) ad 40 σ9) t) A) (#[.ref (ad 0), .int a1, .int a2, .int a3]) s 0 0 A) (F0 m 0 ls []) := by
    intro σ x1 x2 x3 H locs ls h hP hD hS hl
    unfold fX12_share_0 at h
    refine lv_aload_n hx hb dX12_share_0 rfl (lv_at hl 0 rfl) ?_
    refine lv_iload_n hx hb dX12_share_1 rfl (lv_at hl 1 rfl) ?_
    obtain ⟨r1, hf2, h⟩ := biS h
    refine ux_calli (va_runV (As := [.int x1]) (rest := []) ⟨hx, hb, hml, hown, hts⟩ (tX12_isTable l dC dI cy ad σ x1 H.size r1 hf2) (cwV 1 hts gX12_share_X12_isTable rfl rfl rfl (by decide +kernel) ⟨Nat.le_of_ble_eq_true rfl, Nat.le_of_ble_eq_true rfl⟩) (wp_V hK hN hP hD (va_recv hK hP (ci := 12) (q0 := 0) rfl (wG_of (Nat.le_of_ble_eq_true rfl) rfl))) rfl rfl hl.1 rfl (lv_room (Nat.le_of_ble_eq_true rfl)) dX12_share_2 ⟨Nat.le_of_ble_eq_true rfl, Nat.le_of_ble_eq_true rfl⟩) hD hS hA (fun H locs hP hD hS => ?_)
    refine lv_if_eq (tgt := 25) hx hb dX12_share_5 (by decide) (fun hcd => ?_) (fun hcd => ?_)
    · have h := cdP hcd h
      refine lv_iconst (v := (-1)) hx hb dX12_share_25 (by decide) ?_
      exact ux_iret hx hb hr h hP hD hS hlocks dX12_share_26
    · have h := cdN hcd h
      refine lv_aload_n hx hb dX12_share_8 rfl (lv_at hl 0 rfl) ?_
      refine lv_iload_n hx hb dX12_share_9 rfl (lv_at hl 2 rfl) ?_
      obtain ⟨r3, hf4, h⟩ := biS h
      refine ux_calli (va_runV (As := [.int x2]) (rest := []) ⟨hx, hb, hml, hown, hts⟩ (tX12_isKeeper l dC dI cy ad σ x2 H.size r3 hf4) (cwV 1 hts gX12_share_X12_isKeeper rfl rfl rfl (by decide +kernel) ⟨Nat.le_of_ble_eq_true rfl, Nat.le_of_ble_eq_true rfl⟩) (wp_V hK hN hP hD (va_recv hK hP (ci := 12) (q0 := 0) rfl (wG_of (Nat.le_of_ble_eq_true rfl) rfl))) rfl rfl hl.1 rfl (lv_room (Nat.le_of_ble_eq_true rfl)) dX12_share_10 ⟨Nat.le_of_ble_eq_true rfl, Nat.le_of_ble_eq_true rfl⟩) hD hS hA (fun H locs hP hD hS => ?_)
      refine lv_if_eq (tgt := 25) hx hb dX12_share_13 (by decide) (fun hcd => ?_) (fun hcd => ?_)
      · have h := cdP hcd h
        refine lv_iconst (v := (-1)) hx hb dX12_share_25 (by decide) ?_
        exact ux_iret hx hb hr h hP hD hS hlocks dX12_share_26
      · have h := cdN hcd h
        refine lv_iload_n hx hb dX12_share_16 rfl (lv_at hl 3 rfl) ?_
        refine lv_iconst (v := 0) hx hb dX12_share_17 (by decide) ?_
        refine lv_iconst (v := 1) hx hb dX12_share_18 (by decide) ?_
        obtain ⟨r5, hf6, h⟩ := biS h
        refine ux_calli (va_runS (As := [.int x3, .int 0, .int 1]) (rest := []) ⟨hx, hb, hml, hown, hts⟩ (tX12_in l dC dI cy ad σ x3 0 1 H.size r5 hf6) (va_cwS 3 hts gX12_share_X12_in rfl rfl rfl (by decide +kernel) ⟨Nat.le_of_ble_eq_true rfl, Nat.le_of_ble_eq_true rfl⟩) (wp_S hK hN hP hD) rfl rfl hl.1 rfl (lv_room (Nat.le_of_ble_eq_true rfl)) dX12_share_19 ⟨Nat.le_of_ble_eq_true rfl, Nat.le_of_ble_eq_true rfl⟩) hD hS hA (fun H locs hP hD hS => ?_)
        refine lv_if_ne (tgt := 27) hx hb dX12_share_22 (by decide) (fun hcd => ?_) (fun hcd => ?_)
        · have h := cdN hcd h
          refine lv_iload_n hx hb dX12_share_27 rfl (lv_at hl 3 rfl) ?_
          refine lv_if_ne (tgt := 38) hx hb dX12_share_28 (by decide) (fun hcd => ?_) (fun hcd => ?_)
          · have h := cdN hcd h
            refine lv_aload_n hx hb dX12_share_38 rfl (lv_at hl 0 rfl) ?_
            refine lv_iload_n hx hb dX12_share_39 rfl (lv_at hl 1 rfl) ?_
            obtain ⟨r7, σ8, hf9, h⟩ := bsS h
            refine ux_callv (va_runV (As := [.int x1]) (rest := []) ⟨hx, hb, hml, hown, hts⟩ (tX12_findOdds l dC dI cy ad σ x1 H.size r7 σ8 hf9) (cwV 1 hts gX12_share_X12_findOdds rfl rfl rfl (by decide +kernel) ⟨Nat.le_of_ble_eq_true rfl, Nat.le_of_ble_eq_true rfl⟩) (wp_V hK hN hP hD (va_recv hK hP (ci := 12) (q0 := 0) rfl (wG_of (Nat.le_of_ble_eq_true rfl) rfl))) rfl rfl hl.1 rfl (lv_room (Nat.le_of_ble_eq_true rfl)) dX12_share_40 ⟨Nat.le_of_ble_eq_true rfl, Nat.le_of_ble_eq_true rfl⟩) hD hS hA (fun H locs hP hD hS => ?_)
            refine lv_aload_n hx hb dX12_share_43 rfl (lv_at hl 0 rfl) ?_
            refine ux_get (D := (dC, dI)) (ci := 12) (v := .ref (ad 37)) (C := RX12) (T := TX12) (M := 59) (fs := (oM ad (σ8.1 0))) hx hb hts (fun _ h9 => List.mem_cons_of_mem _ (List.mem_append_right _ h9)) hown hK hP 0 (Nat.le_of_ble_eq_true rfl) rfl rfl 56 (by decide) (hts (.fieldLink RX12 124 "SeatsRoundModel" "odds" "[I") (List.mem_of_getElem? (i := 1) rfl)) (fun _ h9 => h9) rfl dX12_share_44 ?_
            refine lv_iload_n hx hb dX12_share_47 rfl (lv_at hl 2 rfl) ?_
            refine ux_iald hx hb hK hP 37 0 (Nat.le_of_ble_eq_true rfl) (cM_37 _ _ _ _) rfl h dX12_share_48 (fun v10 h => ?_)
            exact ux_iret hx hb hr h hP hD hS hlocks dX12_share_49
          · have h := cdP hcd h
            refine lv_aload_n hx hb dX12_share_31 rfl (lv_at hl 0 rfl) ?_
            refine lv_iload_n hx hb dX12_share_32 rfl (lv_at hl 1 rfl) ?_
            refine lv_iload_n hx hb dX12_share_33 rfl (lv_at hl 2 rfl) ?_
            obtain ⟨r11, σ12, hf13, h⟩ := bsS h
            refine ux_calli (va_runV (As := [.int x1, .int x2]) (rest := []) ⟨hx, hb, hml, hown, hts⟩ (tX12_shareOf l dC dI cy ad σ x1 x2 H.size r11 σ12 hf13) (cwV 2 hts gX12_share_X12_shareOf rfl rfl rfl (by decide +kernel) ⟨Nat.le_of_ble_eq_true rfl, Nat.le_of_ble_eq_true rfl⟩) (wp_V hK hN hP hD (va_recv hK hP (ci := 12) (q0 := 0) rfl (wG_of (Nat.le_of_ble_eq_true rfl) rfl))) rfl rfl hl.1 rfl (lv_room (Nat.le_of_ble_eq_true rfl)) dX12_share_34 ⟨Nat.le_of_ble_eq_true rfl, Nat.le_of_ble_eq_true rfl⟩) hD hS hA (fun H locs hP hD hS => ?_)
            exact ux_iret hx hb hr h hP hD hS hlocks dX12_share_37
        · have h := cdP hcd h
          refine lv_iconst (v := (-1)) hx hb dX12_share_25 (by decide) ?_
          exact ux_iret hx hb hr h hP hD hS hlocks dX12_share_26
  intro H locs ls h hP hD hS hl
  exact w0 σ a1 a2 a3 H locs ls h hP hD hS (lv_sub hl [0, 1, 2, 3] rfl)

set_option maxHeartbeats 4000000 in
set_option maxRecDepth 100000 in
theorem tX12_even (l : Launch) (dC : Nat → ClassId) (dI : Nat → Nat → Nat) (cy : Nat → ClassId) (ad : Nat → Nat) (σ : S2) (a1 : Int32) (sz : Nat) (r0 : Int32) (σ9 : S2) (h : fX12_even σ a1 = some (r0, σ9)) : Met l yX12_even wsX12_even ({ frames := 5, cells := 0, slots := 0, locals := 118 }) (va_Pc [.ref (ad 0), .int a1] (wPre (dC, dI) cy (wG (cM cy ad) ad 40 σ) sz)) (va_Qi (fun (r : Int32) (_ : Unit) => r = r0) (fun (_ : Unit) t => wAt (dC, dI) (va_A (wG (cM cy ad) ad 40 σ) sz) (wG (cM cy ad) ad 40 σ9) t) (va_A (wG (cM cy ad) ad 40 σ) sz)) 0 0 (va_A (wG (cM cy ad) ad 40 σ) sz) := by
  refine Met.ofW (cc := cX12_even) (maxL := 5) (ret := (some .int)) (by decide) rfl ?_
  intro p e s m args below meth c s₁ B hml hv
  obtain ⟨rfl, hsz, hP, hK, hD0, hN⟩ := hv
  have hx := B.exec
  have hb := B.bytes
  have hr := B.returns
  have hts := atoms_spec (ws := wsX12_even) B.pre
  have hown : s.vm.findClass RX12 = some m.cls := findClass_of_methodNamed B.named
  have hlocks := B.notSynchronized
  subst hsz
  have hD := hD0.self (sz := s.heap.size)
  generalize hAe : va_A (wG (cM cy ad) ad 40 σ) s.heap.size = A at hD ⊢
  have hA : ∀ q : Nat, s.heap.size ≤ q → A q := fun q h => by rw [← hAe]; exact Or.inr h
  have hS : va_S A s.heap s.heap [] := va_S.rf
  have hl := lv_entry ([.ref (ad 0), .int a1]) (n := 5) (Nat.le_of_ble_eq_true rfl)
  rw [lg_entry_eq]
  generalize (lg_sl ([.ref (ad 0), .int a1]) ++ List.replicate (5 - (lg_sl ([.ref (ad 0), .int a1])).length) Slot.unset).toArray = ls at hl ⊢
  have hl : lv_has ls 5 [(0, .ref (ad 0)), (1, .int a1)] := hl
  unfold fX12_even at h
  clear hAe hD0
  suffices HH : ∀ (H : Heap) (locs : List Loc) (ls : Array Slot), fX12_even_0 σ a1 = some (r0, σ9) → va_P (dC, dI) vwCl (wG (cM cy ad) ad 40 σ) H → va_D A (wG (cM cy ad) ad 40 σ) → va_S A s.heap H locs → lv_has ls 5 [(0, .ref (ad 0)), (1, .int a1)] → W p l e (headSpec wsX12_even ({ frames := 5, cells := 0, slots := 0, locals := 118 })).room s m (#[.ref (ad 0), .int a1]) below meth c H locs 0 0 (MQ below (va_Qi (fun (r : Int32) (_ : Unit) => r = r0) (fun (_ : Unit) t => wAt (dC, dI) A (wG (cM cy ad) ad 40 σ9) t) A) (#[.ref (ad 0), .int a1]) s 0 0 A) (F0 m 0 ls []) from HH s.heap [] ls h hP hD hS hl
  have w79 : ∀ (k14 : S2 → Int32 → Int32 → Int32 → Int32 → Option (Int32 × S2)) (hk14 : ∀ (σ : S2) (x1 : Int32) (x2 : Int32) (x3 : Int32) (x4 : Int32) (H : Heap) (locs : List Loc) (ls : Array Slot), k14 σ x1 x2 x3 x4 = some (r0, σ9) → va_P (dC, dI) vwCl (wG (cM cy ad) ad 40 σ) H → va_D A (wG (cM cy ad) ad 40 σ) → va_S A s.heap H locs → lv_has ls 5 [(0, .ref (ad 0)), (1, .int x1), (2, .int x2), (3, .int x3), (4, .int x4)] → W p l e (headSpec wsX12_even ({ frames := 5, cells := 0, slots := 0, locals := 118 })).room s m (#[.ref (ad 0), .int a1]) below meth c H locs 0 0 (MQ below (va_Qi (fun (r : Int32) (_ : Unit) => r = r0) (fun (_ : Unit) t => wAt (dC, dI) A (wG (cM cy ad) ad 40 σ9) t) A) (#[.ref (ad 0), .int a1]) s 0 0 A) (F0 m 14 ls [])) , ∀ (σ : S2) (x1 : Int32) (x2 : Int32) (x3 : Int32) (x4 : Int32) (H : Heap) (locs : List Loc) (ls : Array Slot), fX12_even_79 k14 σ x1 x2 x3 x4 = some (r0, σ9) → va_P (dC, dI) vwCl (wG (cM cy ad) ad 40 σ) H → va_D A (wG (cM cy ad) ad 40 σ) → va_S A s.heap H locs → lv_has ls 5 [(0, .ref (ad 0)), (1, .int x1), (2, .int x2), (3, .int x3), (4, .int x4)] → W p l e (headSpec wsX12_even ({ frames := 5, cells := 0, slots := 0, locals := 118 })).room s m (#[.ref (ad 0), .int a1]) below meth c H locs 0 0 (MQ below (va_Qi (fun (r : Int32) (_ : Unit) => r = r0) (fun (_ : Unit) t => wAt (dC, dI) A (wG (cM cy ad) ad 40 σ9) t) A) (#[.ref (ad 0), .int a1]) s 0 0 A) (F0 m 79 ls []) := by
    intro k14 hk14 σ x1 x2 x3 x4 H locs ls h hP hD hS hl
    unfold fX12_even_79 at h
    obtain ⟨v1, ev1⟩ : ∃ y : Int32, y = x4 + 1 := ⟨_, rfl⟩
    have h := nmS h ev1
    refine lv_iinc (v := v1) (lv' := [(4, .int v1), (0, .ref (ad 0)), (1, .int x1), (2, .int x2), (3, .int x3)]) hx hb dX12_even_79 hl (k := 4) rfl (by rw [ev1]; rfl) (by decide) rfl (fun ls hl => ?_)
    have hl := lv_sub hl [1, 2, 3, 4, 0] (l' := [(0, .ref (ad 0)), (1, .int x1), (2, .int x2), (3, .int x3), (4, .int v1)]) rfl
    refine lv_goto (tgt := 14) hx hb dX12_even_82 (by decide) ?_
    exact hk14 σ x1 x2 x3 v1 H locs ls h hP hD hS hl
  have w78 : ∀ (k14 : S2 → Int32 → Int32 → Int32 → Int32 → Option (Int32 × S2)) (hk14 : ∀ (σ : S2) (x1 : Int32) (x2 : Int32) (x3 : Int32) (x4 : Int32) (H : Heap) (locs : List Loc) (ls : Array Slot), k14 σ x1 x2 x3 x4 = some (r0, σ9) → va_P (dC, dI) vwCl (wG (cM cy ad) ad 40 σ) H → va_D A (wG (cM cy ad) ad 40 σ) → va_S A s.heap H locs → lv_has ls 5 [(0, .ref (ad 0)), (1, .int x1), (2, .int x2), (3, .int x3), (4, .int x4)] → W p l e (headSpec wsX12_even ({ frames := 5, cells := 0, slots := 0, locals := 118 })).room s m (#[.ref (ad 0), .int a1]) below meth c H locs 0 0 (MQ below (va_Qi (fun (r : Int32) (_ : Unit) => r = r0) (fun (_ : Unit) t => wAt (dC, dI) A (wG (cM cy ad) ad 40 σ9) t) A) (#[.ref (ad 0), .int a1]) s 0 0 A) (F0 m 14 ls [])) , ∀ (σ : S2) (x1 : Int32) (x2 : Int32) (x4 : Int32) (s0 : Int32) (H : Heap) (locs : List Loc) (ls : Array Slot), fX12_even_78 k14 σ x1 x2 x4 s0 = some (r0, σ9) → va_P (dC, dI) vwCl (wG (cM cy ad) ad 40 σ) H → va_D A (wG (cM cy ad) ad 40 σ) → va_S A s.heap H locs → lv_has ls 5 [(0, .ref (ad 0)), (1, .int x1), (2, .int x2), (4, .int x4)] → W p l e (headSpec wsX12_even ({ frames := 5, cells := 0, slots := 0, locals := 118 })).room s m (#[.ref (ad 0), .int a1]) below meth c H locs 0 0 (MQ below (va_Qi (fun (r : Int32) (_ : Unit) => r = r0) (fun (_ : Unit) t => wAt (dC, dI) A (wG (cM cy ad) ad 40 σ9) t) A) (#[.ref (ad 0), .int a1]) s 0 0 A) (F0 m 78 ls [.int s0]) := by
    intro k14 hk14 σ x1 x2 x4 s0 H locs ls h hP hD hS hl
    unfold fX12_even_78 at h
    refine lv_istore_n (lv' := [(3, .int s0), (0, .ref (ad 0)), (1, .int x1), (2, .int x2), (4, .int x4)]) hx hb dX12_even_78 rfl hl (by decide) rfl (fun ls hl => ?_)
    have hl := lv_sub hl [1, 2, 3, 0, 4] (l' := [(0, .ref (ad 0)), (1, .int x1), (2, .int x2), (3, .int s0), (4, .int x4)]) rfl
    exact w79 _ hk14 σ x1 x2 s0 x4 H locs ls h hP hD hS hl
  have w55 : ∀ (k14 : S2 → Int32 → Int32 → Int32 → Int32 → Option (Int32 × S2)) (hk14 : ∀ (σ : S2) (x1 : Int32) (x2 : Int32) (x3 : Int32) (x4 : Int32) (H : Heap) (locs : List Loc) (ls : Array Slot), k14 σ x1 x2 x3 x4 = some (r0, σ9) → va_P (dC, dI) vwCl (wG (cM cy ad) ad 40 σ) H → va_D A (wG (cM cy ad) ad 40 σ) → va_S A s.heap H locs → lv_has ls 5 [(0, .ref (ad 0)), (1, .int x1), (2, .int x2), (3, .int x3), (4, .int x4)] → W p l e (headSpec wsX12_even ({ frames := 5, cells := 0, slots := 0, locals := 118 })).room s m (#[.ref (ad 0), .int a1]) below meth c H locs 0 0 (MQ below (va_Qi (fun (r : Int32) (_ : Unit) => r = r0) (fun (_ : Unit) t => wAt (dC, dI) A (wG (cM cy ad) ad 40 σ9) t) A) (#[.ref (ad 0), .int a1]) s 0 0 A) (F0 m 14 ls [])) , ∀ (σ : S2) (x1 : Int32) (x3 : Int32) (x4 : Int32) (s0 : Int32) (H : Heap) (locs : List Loc) (ls : Array Slot), fX12_even_55 k14 σ x1 x3 x4 s0 = some (r0, σ9) → va_P (dC, dI) vwCl (wG (cM cy ad) ad 40 σ) H → va_D A (wG (cM cy ad) ad 40 σ) → va_S A s.heap H locs → lv_has ls 5 [(0, .ref (ad 0)), (1, .int x1), (3, .int x3), (4, .int x4)] → W p l e (headSpec wsX12_even ({ frames := 5, cells := 0, slots := 0, locals := 118 })).room s m (#[.ref (ad 0), .int a1]) below meth c H locs 0 0 (MQ below (va_Qi (fun (r : Int32) (_ : Unit) => r = r0) (fun (_ : Unit) t => wAt (dC, dI) A (wG (cM cy ad) ad 40 σ9) t) A) (#[.ref (ad 0), .int a1]) s 0 0 A) (F0 m 55 ls [.int s0]) := by
    intro k14 hk14 σ x1 x3 x4 s0 H locs ls h hP hD hS hl
    unfold fX12_even_55 at h
    refine lv_istore_n (lv' := [(2, .int s0), (0, .ref (ad 0)), (1, .int x1), (3, .int x3), (4, .int x4)]) hx hb dX12_even_55 rfl hl (by decide) rfl (fun ls hl => ?_)
    have hl := lv_sub hl [1, 2, 0, 3, 4] (l' := [(0, .ref (ad 0)), (1, .int x1), (2, .int s0), (3, .int x3), (4, .int x4)]) rfl
    refine lv_aload_n hx hb dX12_even_56 rfl (lv_at hl 0 rfl) ?_
    refine ux_get (D := (dC, dI)) (ci := 12) (v := .ref (ad 37)) (C := RX12) (T := TX12) (M := 59) (fs := (oM ad (σ.1 0))) hx hb hts (fun _ h9 => List.mem_cons_of_mem _ (List.mem_append_right _ h9)) hown hK hP 0 (Nat.le_of_ble_eq_true rfl) rfl rfl 56 (by decide) (hts (.fieldLink RX12 124 "SeatsRoundModel" "odds" "[I") (List.mem_of_getElem? (i := 2) rfl)) (fun _ h9 => h9) rfl dX12_even_57 ?_
    refine lv_iload hx hb dX12_even_60 (lv_at hl 4 rfl) ?_
    refine ux_iald hx hb hK hP 37 0 (Nat.le_of_ble_eq_true rfl) (cM_37 _ _ _ _) rfl h dX12_even_62 (fun v2 h => ?_)
    refine lv_iload_n hx hb dX12_even_63 rfl (lv_at hl 3 rfl) ?_
    refine lv_icmp_le (tgt := 77) hx hb dX12_even_64 (by decide) (fun hcd => ?_) (fun hcd => ?_)
    · have h := cdP hcd h
      refine lv_iload_n hx hb dX12_even_77 rfl (lv_at hl 3 rfl) ?_
      exact w78 _ hk14 σ x1 s0 x4 x3 H locs ls h hP hD hS (lv_sub hl [0, 1, 2, 4] rfl)
    · have h := cdN hcd h
      refine lv_aload_n hx hb dX12_even_67 rfl (lv_at hl 0 rfl) ?_
      refine ux_get (D := (dC, dI)) (ci := 12) (v := .ref (ad 37)) (C := RX12) (T := TX12) (M := 59) (fs := (oM ad (σ.1 0))) hx hb hts (fun _ h9 => List.mem_cons_of_mem _ (List.mem_append_right _ h9)) hown hK hP 0 (Nat.le_of_ble_eq_true rfl) rfl rfl 56 (by decide) (hts (.fieldLink RX12 124 "SeatsRoundModel" "odds" "[I") (List.mem_of_getElem? (i := 2) rfl)) (fun _ h9 => h9) rfl dX12_even_68 ?_
      refine lv_iload hx hb dX12_even_71 (lv_at hl 4 rfl) ?_
      refine ux_iald hx hb hK hP 37 0 (Nat.le_of_ble_eq_true rfl) (cM_37 _ _ _ _) rfl h dX12_even_73 (fun v3 h => ?_)
      refine lv_goto (tgt := 78) hx hb dX12_even_74 (by decide) ?_
      exact w78 _ hk14 σ x1 s0 x4 v3 H locs ls h hP hD hS (lv_sub hl [0, 1, 2, 4] rfl)
  have w14 : ∀ (n : Nat), ∀ (σ : S2) (x1 : Int32) (x2 : Int32) (x3 : Int32) (x4 : Int32) (H : Heap) (locs : List Loc) (ls : Array Slot), fX12_even_14 n σ x1 x2 x3 x4 = some (r0, σ9) → va_P (dC, dI) vwCl (wG (cM cy ad) ad 40 σ) H → va_D A (wG (cM cy ad) ad 40 σ) → va_S A s.heap H locs → lv_has ls 5 [(0, .ref (ad 0)), (1, .int x1), (2, .int x2), (3, .int x3), (4, .int x4)] → W p l e (headSpec wsX12_even ({ frames := 5, cells := 0, slots := 0, locals := 118 })).room s m (#[.ref (ad 0), .int a1]) below meth c H locs 0 0 (MQ below (va_Qi (fun (r : Int32) (_ : Unit) => r = r0) (fun (_ : Unit) t => wAt (dC, dI) A (wG (cM cy ad) ad 40 σ9) t) A) (#[.ref (ad 0), .int a1]) s 0 0 A) (F0 m 14 ls []) := by
    intro n
    induction n with
    | zero => intro σ x1 x2 x3 x4 H locs ls h; cases h
    | succ n ih =>
    intro σ x1 x2 x3 x4 H locs ls h hP hD hS hl
    unfold fX12_even_14 at h
    refine lv_iload hx hb dX12_even_14 (lv_at hl 4 rfl) ?_
    refine lv_aload_n hx hb dX12_even_16 rfl (lv_at hl 0 rfl) ?_
    refine ux_get (D := (dC, dI)) (ci := 12) (v := .int (σ.1 0 3)) (C := RX12) (T := TX12) (M := 59) (fs := (oM ad (σ.1 0))) hx hb hts (fun _ h9 => List.mem_cons_of_mem _ (List.mem_append_right _ h9)) hown hK hP 0 (Nat.le_of_ble_eq_true rfl) rfl rfl 3 (by decide) (hts (.fieldLink RX12 140 "SeatsRoundModel" "keepers" "I") (List.mem_of_getElem? (i := 1) rfl)) (fun _ h9 => h9) rfl dX12_even_17 ?_
    refine lv_icmp_ge (tgt := 85) hx hb dX12_even_20 (by decide) (fun hcd => ?_) (fun hcd => ?_)
    · have h := cdP hcd h
      refine lv_iload_n hx hb dX12_even_85 rfl (lv_at hl 3 rfl) ?_
      refine lv_iload_n hx hb dX12_even_86 rfl (lv_at hl 2 rfl) ?_
      refine lv_isub hx hb dX12_even_87 ?_
      exact ux_iret hx hb hr h hP hD hS hlocks dX12_even_88
    · have h := cdN hcd h
      refine lv_aload_n hx hb dX12_even_23 rfl (lv_at hl 0 rfl) ?_
      refine lv_iload_n hx hb dX12_even_24 rfl (lv_at hl 1 rfl) ?_
      refine lv_iload hx hb dX12_even_25 (lv_at hl 4 rfl) ?_
      obtain ⟨r4, hf5, h⟩ := biS h
      refine ux_calli (va_runV (As := [.int x1, .int x4]) (rest := []) ⟨hx, hb, hml, hown, hts⟩ (tX12_isIn l dC dI cy ad σ x1 x4 H.size r4 hf5) (cwV 2 hts gX12_even_X12_isIn rfl rfl rfl (by decide +kernel) ⟨Nat.le_of_ble_eq_true rfl, Nat.le_of_ble_eq_true rfl⟩) (wp_V hK hN hP hD (va_recv hK hP (ci := 12) (q0 := 0) rfl (wG_of (Nat.le_of_ble_eq_true rfl) rfl))) rfl rfl hl.1 rfl (lv_room (Nat.le_of_ble_eq_true rfl)) dX12_even_27 ⟨Nat.le_of_ble_eq_true rfl, Nat.le_of_ble_eq_true rfl⟩) hD hS hA (fun H locs hP hD hS => ?_)
      refine lv_if_eq (tgt := 79) hx hb dX12_even_30 (by decide) (fun hcd => ?_) (fun hcd => ?_)
      · have h := cdP hcd h
        exact w79 _ ih σ x1 x2 x3 x4 H locs ls h hP hD hS hl
      · have h := cdN hcd h
        refine lv_aload_n hx hb dX12_even_33 rfl (lv_at hl 0 rfl) ?_
        refine ux_get (D := (dC, dI)) (ci := 12) (v := .ref (ad 37)) (C := RX12) (T := TX12) (M := 59) (fs := (oM ad (σ.1 0))) hx hb hts (fun _ h9 => List.mem_cons_of_mem _ (List.mem_append_right _ h9)) hown hK hP 0 (Nat.le_of_ble_eq_true rfl) rfl rfl 56 (by decide) (hts (.fieldLink RX12 124 "SeatsRoundModel" "odds" "[I") (List.mem_of_getElem? (i := 2) rfl)) (fun _ h9 => h9) rfl dX12_even_34 ?_
        refine lv_iload hx hb dX12_even_37 (lv_at hl 4 rfl) ?_
        refine ux_iald hx hb hK hP 37 0 (Nat.le_of_ble_eq_true rfl) (cM_37 _ _ _ _) rfl h dX12_even_39 (fun v6 h => ?_)
        refine lv_iload_n hx hb dX12_even_40 rfl (lv_at hl 2 rfl) ?_
        refine lv_icmp_ge (tgt := 54) hx hb dX12_even_41 (by decide) (fun hcd => ?_) (fun hcd => ?_)
        · have h := cdP hcd h
          refine lv_iload_n hx hb dX12_even_54 rfl (lv_at hl 2 rfl) ?_
          exact w55 _ ih σ x1 x3 x4 x2 H locs ls h hP hD hS (lv_sub hl [0, 1, 3, 4] rfl)
        · have h := cdN hcd h
          refine lv_aload_n hx hb dX12_even_44 rfl (lv_at hl 0 rfl) ?_
          refine ux_get (D := (dC, dI)) (ci := 12) (v := .ref (ad 37)) (C := RX12) (T := TX12) (M := 59) (fs := (oM ad (σ.1 0))) hx hb hts (fun _ h9 => List.mem_cons_of_mem _ (List.mem_append_right _ h9)) hown hK hP 0 (Nat.le_of_ble_eq_true rfl) rfl rfl 56 (by decide) (hts (.fieldLink RX12 124 "SeatsRoundModel" "odds" "[I") (List.mem_of_getElem? (i := 2) rfl)) (fun _ h9 => h9) rfl dX12_even_45 ?_
          refine lv_iload hx hb dX12_even_48 (lv_at hl 4 rfl) ?_
          refine ux_iald hx hb hK hP 37 0 (Nat.le_of_ble_eq_true rfl) (cM_37 _ _ _ _) rfl h dX12_even_50 (fun v7 h => ?_)
          refine lv_goto (tgt := 55) hx hb dX12_even_51 (by decide) ?_
          exact w55 _ ih σ x1 x3 x4 v7 H locs ls h hP hD hS (lv_sub hl [0, 1, 3, 4] rfl)
  have w0 : ∀ (σ : S2) (x1 : Int32) (H : Heap) (locs : List Loc) (ls : Array Slot), fX12_even_0 σ x1 = some (r0, σ9) → va_P (dC, dI) vwCl (wG (cM cy ad) ad 40 σ) H → va_D A (wG (cM cy ad) ad 40 σ) → va_S A s.heap H locs → lv_has ls 5 [(0, .ref (ad 0)), (1, .int x1)] → W p l e (headSpec wsX12_even ({ frames := 5, cells := 0, slots := 0, locals := 118 })).room s m (#[.ref (ad 0), .int a1]) below meth c H locs 0 0 (MQ below (va_Qi (fun (r : Int32) (_ : Unit) => r = r0) (fun (_ : Unit) t => wAt (dC, dI) A (wG (cM cy ad) ad 40 σ9) t) A) (#[.ref (ad 0), .int a1]) s 0 0 A) (F0 m 0 ls []) := by
    intro σ x1 H locs ls h hP hD hS hl
    unfold fX12_even_0 at h
    refine lv_aload_n hx hb dX12_even_0 rfl (lv_at hl 0 rfl) ?_
    refine lv_iload_n hx hb dX12_even_1 rfl (lv_at hl 1 rfl) ?_
    obtain ⟨r8, σ9, hf10, h⟩ := bsS h
    refine ux_callv (va_runV (As := [.int x1]) (rest := []) ⟨hx, hb, hml, hown, hts⟩ (tX12_findOdds l dC dI cy ad σ x1 H.size r8 σ9 hf10) (cwV 1 hts gX12_even_X12_findOdds rfl rfl rfl (by decide +kernel) ⟨Nat.le_of_ble_eq_true rfl, Nat.le_of_ble_eq_true rfl⟩) (wp_V hK hN hP hD (va_recv hK hP (ci := 12) (q0 := 0) rfl (wG_of (Nat.le_of_ble_eq_true rfl) rfl))) rfl rfl hl.1 rfl (lv_room (Nat.le_of_ble_eq_true rfl)) dX12_even_2 ⟨Nat.le_of_ble_eq_true rfl, Nat.le_of_ble_eq_true rfl⟩) hD hS hA (fun H locs hP hD hS => ?_)
    refine lv_sipush (v := 1000) hx hb dX12_even_5 (by decide) ?_
    refine lv_istore_n (lv' := [(2, .int 1000), (0, .ref (ad 0)), (1, .int x1)]) hx hb dX12_even_8 rfl hl (by decide) rfl (fun ls hl => ?_)
    have hl := lv_sub hl [1, 2, 0] (l' := [(0, .ref (ad 0)), (1, .int x1), (2, .int 1000)]) rfl
    refine lv_iconst (v := 0) hx hb dX12_even_9 (by decide) ?_
    refine lv_istore_n (lv' := [(3, .int 0), (0, .ref (ad 0)), (1, .int x1), (2, .int 1000)]) hx hb dX12_even_10 rfl hl (by decide) rfl (fun ls hl => ?_)
    have hl := lv_sub hl [1, 2, 3, 0] (l' := [(0, .ref (ad 0)), (1, .int x1), (2, .int 1000), (3, .int 0)]) rfl
    refine lv_iconst (v := 0) hx hb dX12_even_11 (by decide) ?_
    refine lv_istore (lv' := [(4, .int 0), (0, .ref (ad 0)), (1, .int x1), (2, .int 1000), (3, .int 0)]) hx hb dX12_even_12 hl (by decide) rfl (fun ls hl => ?_)
    have hl := lv_sub hl [1, 2, 3, 4, 0] (l' := [(0, .ref (ad 0)), (1, .int x1), (2, .int 1000), (3, .int 0), (4, .int 0)]) rfl
    exact w14 FU σ9 x1 1000 0 0 H locs ls h hP hD hS hl
  intro H locs ls h hP hD hS hl
  exact w0 σ a1 H locs ls h hP hD hS (lv_sub hl [0, 1] rfl)

set_option maxHeartbeats 4000000 in
set_option maxRecDepth 100000 in
theorem tX12_ofTable (l : Launch) (dC : Nat → ClassId) (dI : Nat → Nat → Nat) (cy : Nat → ClassId) (ad : Nat → Nat) (σ : S2) (a1 : Int32) (a2 : Int32) (sz : Nat) (r0 : Int32) (σ9 : S2) (h : fX12_ofTable σ a1 a2 = some (r0, σ9)) : Met l yX12_ofTable wsX12_ofTable ({ frames := 6, cells := 0, slots := 0, locals := 142 }) (va_Pc [.ref (ad 0), .int a1, .int a2] (wPre (dC, dI) cy (wG (cM cy ad) ad 40 σ) sz)) (va_Qi (fun (r : Int32) (_ : Unit) => r = r0) (fun (_ : Unit) t => wAt (dC, dI) (va_A (wG (cM cy ad) ad 40 σ) sz) (wG (cM cy ad) ad 40 σ9) t) (va_A (wG (cM cy ad) ad 40 σ) sz)) 0 0 (va_A (wG (cM cy ad) ad 40 σ) sz) := by
  refine Met.ofW (cc := cX12_ofTable) (maxL := 3) (ret := (some .int)) (by decide) rfl ?_
  intro p e s m args below meth c s₁ B hml hv
  obtain ⟨rfl, hsz, hP, hK, hD0, hN⟩ := hv
  have hx := B.exec
  have hb := B.bytes
  have hr := B.returns
  have hts := atoms_spec (ws := wsX12_ofTable) B.pre
  have hown : s.vm.findClass RX12 = some m.cls := findClass_of_methodNamed B.named
  have hlocks := B.notSynchronized
  subst hsz
  have hD := hD0.self (sz := s.heap.size)
  generalize hAe : va_A (wG (cM cy ad) ad 40 σ) s.heap.size = A at hD ⊢
  have hA : ∀ q : Nat, s.heap.size ≤ q → A q := fun q h => by rw [← hAe]; exact Or.inr h
  have hS : va_S A s.heap s.heap [] := va_S.rf
  have hl := lv_entry ([.ref (ad 0), .int a1, .int a2]) (n := 3) (Nat.le_of_ble_eq_true rfl)
  rw [lg_entry_eq]
  generalize (lg_sl ([.ref (ad 0), .int a1, .int a2]) ++ List.replicate (3 - (lg_sl ([.ref (ad 0), .int a1, .int a2])).length) Slot.unset).toArray = ls at hl ⊢
  have hl : lv_has ls 3 [(0, .ref (ad 0)), (1, .int a1), (2, .int a2)] := hl
  unfold fX12_ofTable at h
  clear hAe hD0
  suffices HH : ∀ (H : Heap) (locs : List Loc) (ls : Array Slot), fX12_ofTable_0 σ a1 a2 = some (r0, σ9) → va_P (dC, dI) vwCl (wG (cM cy ad) ad 40 σ) H → va_D A (wG (cM cy ad) ad 40 σ) → va_S A s.heap H locs → lv_has ls 3 [(0, .ref (ad 0)), (1, .int a1), (2, .int a2)] → W p l e (headSpec wsX12_ofTable ({ frames := 6, cells := 0, slots := 0, locals := 142 })).room s m (#[.ref (ad 0), .int a1, .int a2]) below meth c H locs 0 0 (MQ below (va_Qi (fun (r : Int32) (_ : Unit) => r = r0) (fun (_ : Unit) t => wAt (dC, dI) A (wG (cM cy ad) ad 40 σ9) t) A) (#[.ref (ad 0), .int a1, .int a2]) s 0 0 A) (F0 m 0 ls []) from HH s.heap [] ls h hP hD hS hl
  have w0 : ∀ (σ : S2) (x1 : Int32) (x2 : Int32) (H : Heap) (locs : List Loc) (ls : Array Slot), fX12_ofTable_0 σ x1 x2 = some (r0, σ9) → va_P (dC, dI) vwCl (wG (cM cy ad) ad 40 σ) H → va_D A (wG (cM cy ad) ad 40 σ) → va_S A s.heap H locs → lv_has ls 3 [(0, .ref (ad 0)), (1, .int x1), (2, .int x2)] → W p l e (headSpec wsX12_ofTable ({ frames := 6, cells := 0, slots := 0, locals := 142 })).room s m (#[.ref (ad 0), .int a1, .int a2]) below meth c H locs 0 0 (MQ below (va_Qi (fun (r : Int32) (_ : Unit) => r = r0) (fun (_ : Unit) t => wAt (dC, dI) A (wG (cM cy ad) ad 40 σ9) t) A) (#[.ref (ad 0), .int a1, .int a2]) s 0 0 A) (F0 m 0 ls []) := by
    intro σ x1 x2 H locs ls h hP hD hS hl
    unfold fX12_ofTable_0 at h
    refine lv_aload_n hx hb dX12_ofTable_0 rfl (lv_at hl 0 rfl) ?_
    refine lv_iload_n hx hb dX12_ofTable_1 rfl (lv_at hl 1 rfl) ?_
    obtain ⟨r1, hf2, h⟩ := biS h
    refine ux_calli (va_runV (As := [.int x1]) (rest := []) ⟨hx, hb, hml, hown, hts⟩ (tX12_isTable l dC dI cy ad σ x1 H.size r1 hf2) (cwV 1 hts gX12_ofTable_X12_isTable rfl rfl rfl (by decide +kernel) ⟨Nat.le_of_ble_eq_true rfl, Nat.le_of_ble_eq_true rfl⟩) (wp_V hK hN hP hD (va_recv hK hP (ci := 12) (q0 := 0) rfl (wG_of (Nat.le_of_ble_eq_true rfl) rfl))) rfl rfl hl.1 rfl (lv_room (Nat.le_of_ble_eq_true rfl)) dX12_ofTable_2 ⟨Nat.le_of_ble_eq_true rfl, Nat.le_of_ble_eq_true rfl⟩) hD hS hA (fun H locs hP hD hS => ?_)
    refine lv_if_ne (tgt := 10) hx hb dX12_ofTable_5 (by decide) (fun hcd => ?_) (fun hcd => ?_)
    · have h := cdN hcd h
      refine lv_iload_n hx hb dX12_ofTable_10 rfl (lv_at hl 2 rfl) ?_
      by_cases hcd3 : x2 = 0
      · have h := cdP hcd3 h
        refine lv_tableIn (off := 37) (tgt := 48) hx hb dX12_ofTable_11 (by rw [hcd3]; decide) (by rw [hcd3]; decide) (by rw [hcd3]; rfl) (by decide) ?_
        refine lv_aload_n hx hb dX12_ofTable_48 rfl (lv_at hl 0 rfl) ?_
        refine ux_get (D := (dC, dI)) (ci := 12) (v := .ref (ad 8)) (C := RX12) (T := TX12) (M := 59) (fs := (oM ad (σ.1 0))) hx hb hts (fun _ h9 => List.mem_cons_of_mem _ (List.mem_append_right _ h9)) hown hK hP 0 (Nat.le_of_ble_eq_true rfl) rfl rfl 10 (by decide) (hts (.fieldLink RX12 32 "SeatsRoundModel" "tableOf" "[I") (List.mem_of_getElem? (i := 1) rfl)) (fun _ h9 => h9) rfl dX12_ofTable_49 ?_
        refine lv_iload_n hx hb dX12_ofTable_52 rfl (lv_at hl 1 rfl) ?_
        refine ux_iald hx hb hK hP 8 0 (Nat.le_of_ble_eq_true rfl) (cM_8 _ _ _ _) rfl h dX12_ofTable_53 (fun v4 h => ?_)
        exact ux_iret hx hb hr h hP hD hS hlocks dX12_ofTable_54
      · have h := cdN hcd3 h
        have ihcd3 : ¬ x2.toInt = (0 : Int) := fun h9 => hcd3 (Int32.toInt_inj.mp h9)
        by_cases hcd5 : x2 = 1
        · have h := cdP hcd5 h
          refine lv_tableIn (off := 44) (tgt := 55) hx hb dX12_ofTable_11 (by rw [hcd5]; decide) (by rw [hcd5]; decide) (by rw [hcd5]; rfl) (by decide) ?_
          refine lv_aload_n hx hb dX12_ofTable_55 rfl (lv_at hl 0 rfl) ?_
          refine ux_get (D := (dC, dI)) (ci := 12) (v := .ref (ad 17)) (C := RX12) (T := TX12) (M := 59) (fs := (oM ad (σ.1 0))) hx hb hts (fun _ h9 => List.mem_cons_of_mem _ (List.mem_append_right _ h9)) hown hK hP 0 (Nat.le_of_ble_eq_true rfl) rfl rfl 19 (by decide) (hts (.fieldLink RX12 59 "SeatsRoundModel" "seatMany" "[I") (List.mem_of_getElem? (i := 2) rfl)) (fun _ h9 => h9) rfl dX12_ofTable_56 ?_
          refine lv_iload_n hx hb dX12_ofTable_59 rfl (lv_at hl 1 rfl) ?_
          refine ux_iald hx hb hK hP 17 0 (Nat.le_of_ble_eq_true rfl) (cM_17 _ _ _ _) rfl h dX12_ofTable_60 (fun v6 h => ?_)
          exact ux_iret hx hb hr h hP hD hS hlocks dX12_ofTable_61
        · have h := cdN hcd5 h
          have ihcd5 : ¬ x2.toInt = (1 : Int) := fun h9 => hcd5 (Int32.toInt_inj.mp h9)
          by_cases hcd7 : x2 = 2
          · have h := cdP hcd7 h
            refine lv_tableIn (off := 51) (tgt := 62) hx hb dX12_ofTable_11 (by rw [hcd7]; decide) (by rw [hcd7]; decide) (by rw [hcd7]; rfl) (by decide) ?_
            refine lv_aload_n hx hb dX12_ofTable_62 rfl (lv_at hl 0 rfl) ?_
            refine ux_get (D := (dC, dI)) (ci := 12) (v := .ref (ad 10)) (C := RX12) (T := TX12) (M := 59) (fs := (oM ad (σ.1 0))) hx hb hts (fun _ h9 => List.mem_cons_of_mem _ (List.mem_append_right _ h9)) hown hK hP 0 (Nat.le_of_ble_eq_true rfl) rfl rfl 12 (by decide) (hts (.fieldLink RX12 38 "SeatsRoundModel" "copies" "[I") (List.mem_of_getElem? (i := 3) rfl)) (fun _ h9 => h9) rfl dX12_ofTable_63 ?_
            refine lv_iload_n hx hb dX12_ofTable_66 rfl (lv_at hl 1 rfl) ?_
            refine ux_iald hx hb hK hP 10 0 (Nat.le_of_ble_eq_true rfl) (cM_10 _ _ _ _) rfl h dX12_ofTable_67 (fun v8 h => ?_)
            exact ux_iret hx hb hr h hP hD hS hlocks dX12_ofTable_68
          · have h := cdN hcd7 h
            have ihcd7 : ¬ x2.toInt = (2 : Int) := fun h9 => hcd7 (Int32.toInt_inj.mp h9)
            by_cases hcd9 : x2 = 3
            · have h := cdP hcd9 h
              refine lv_tableIn (off := 58) (tgt := 69) hx hb dX12_ofTable_11 (by rw [hcd9]; decide) (by rw [hcd9]; decide) (by rw [hcd9]; rfl) (by decide) ?_
              refine lv_aload_n hx hb dX12_ofTable_69 rfl (lv_at hl 0 rfl) ?_
              refine ux_get (D := (dC, dI)) (ci := 12) (v := .ref (ad 11)) (C := RX12) (T := TX12) (M := 59) (fs := (oM ad (σ.1 0))) hx hb hts (fun _ h9 => List.mem_cons_of_mem _ (List.mem_append_right _ h9)) hown hK hP 0 (Nat.le_of_ble_eq_true rfl) rfl rfl 13 (by decide) (hts (.fieldLink RX12 41 "SeatsRoundModel" "streets" "[I") (List.mem_of_getElem? (i := 4) rfl)) (fun _ h9 => h9) rfl dX12_ofTable_70 ?_
              refine lv_iload_n hx hb dX12_ofTable_73 rfl (lv_at hl 1 rfl) ?_
              refine ux_iald hx hb hK hP 11 0 (Nat.le_of_ble_eq_true rfl) (cM_11 _ _ _ _) rfl h dX12_ofTable_74 (fun v10 h => ?_)
              exact ux_iret hx hb hr h hP hD hS hlocks dX12_ofTable_75
            · have h := cdN hcd9 h
              have ihcd9 : ¬ x2.toInt = (3 : Int) := fun h9 => hcd9 (Int32.toInt_inj.mp h9)
              by_cases hcd11 : x2 = 4
              · have h := cdP hcd11 h
                refine lv_tableIn (off := 65) (tgt := 76) hx hb dX12_ofTable_11 (by rw [hcd11]; decide) (by rw [hcd11]; decide) (by rw [hcd11]; rfl) (by decide) ?_
                refine lv_aload_n hx hb dX12_ofTable_76 rfl (lv_at hl 0 rfl) ?_
                refine ux_get (D := (dC, dI)) (ci := 12) (v := .ref (ad 12)) (C := RX12) (T := TX12) (M := 59) (fs := (oM ad (σ.1 0))) hx hb hts (fun _ h9 => List.mem_cons_of_mem _ (List.mem_append_right _ h9)) hown hK hP 0 (Nat.le_of_ble_eq_true rfl) rfl rfl 14 (by decide) (hts (.fieldLink RX12 44 "SeatsRoundModel" "picks" "[I") (List.mem_of_getElem? (i := 5) rfl)) (fun _ h9 => h9) rfl dX12_ofTable_77 ?_
                refine lv_iload_n hx hb dX12_ofTable_80 rfl (lv_at hl 1 rfl) ?_
                refine ux_iald hx hb hK hP 12 0 (Nat.le_of_ble_eq_true rfl) (cM_12 _ _ _ _) rfl h dX12_ofTable_81 (fun v12 h => ?_)
                exact ux_iret hx hb hr h hP hD hS hlocks dX12_ofTable_82
              · have h := cdN hcd11 h
                have ihcd11 : ¬ x2.toInt = (4 : Int) := fun h9 => hcd11 (Int32.toInt_inj.mp h9)
                by_cases hcd13 : x2 = 5
                · have h := cdP hcd13 h
                  refine lv_tableIn (off := 72) (tgt := 83) hx hb dX12_ofTable_11 (by rw [hcd13]; decide) (by rw [hcd13]; decide) (by rw [hcd13]; rfl) (by decide) ?_
                  refine lv_aload_n hx hb dX12_ofTable_83 rfl (lv_at hl 0 rfl) ?_
                  refine lv_iload_n hx hb dX12_ofTable_84 rfl (lv_at hl 1 rfl) ?_
                  obtain ⟨r14, σ15, hf16, h⟩ := bsS h
                  refine ux_calli (va_runV (As := [.int x1]) (rest := []) ⟨hx, hb, hml, hown, hts⟩ (tX12_even l dC dI cy ad σ x1 H.size r14 σ15 hf16) (cwV 1 hts gX12_ofTable_X12_even rfl rfl rfl (by decide +kernel) ⟨Nat.le_of_ble_eq_true rfl, Nat.le_of_ble_eq_true rfl⟩) (wp_V hK hN hP hD (va_recv hK hP (ci := 12) (q0 := 0) rfl (wG_of (Nat.le_of_ble_eq_true rfl) rfl))) rfl rfl hl.1 rfl (lv_room (Nat.le_of_ble_eq_true rfl)) dX12_ofTable_85 ⟨Nat.le_of_ble_eq_true rfl, Nat.le_of_ble_eq_true rfl⟩) hD hS hA (fun H locs hP hD hS => ?_)
                  exact ux_iret hx hb hr h hP hD hS hlocks dX12_ofTable_88
                · have h := cdN hcd13 h
                  have ihcd13 : ¬ x2.toInt = (5 : Int) := fun h9 => hcd13 (Int32.toInt_inj.mp h9)
                  refine lv_tableOut (tgt := 89) hx hb dX12_ofTable_11 (by omega) (by decide) ?_
                  refine lv_iconst (v := (-1)) hx hb dX12_ofTable_89 (by decide) ?_
                  exact ux_iret hx hb hr h hP hD hS hlocks dX12_ofTable_90
    · have h := cdP hcd h
      refine lv_iconst (v := (-1)) hx hb dX12_ofTable_8 (by decide) ?_
      exact ux_iret hx hb hr h hP hD hS hlocks dX12_ofTable_9
  intro H locs ls h hP hD hS hl
  exact w0 σ a1 a2 H locs ls h hP hD hS (lv_sub hl [0, 1, 2] rfl)

set_option maxHeartbeats 4000000 in
set_option maxRecDepth 100000 in
theorem tX12_ones (l : Launch) (dC : Nat → ClassId) (dI : Nat → Nat → Nat) (cy : Nat → ClassId) (ad : Nat → Nat) (σ : S2) (a0 : Int32) (sz : Nat) (r0 : Int32) (h : fX12_ones σ a0 = some r0) : Met l yX12_ones wsX12_ones ({ frames := 1, cells := 0, slots := 0, locals := 23 }) (va_Pc [.int a0] (wPre (dC, dI) cy (wG (cM cy ad) ad 40 σ) sz)) (va_Qi (fun (r : Int32) (_ : Unit) => r = r0) (fun (_ : Unit) t => wAt (dC, dI) (va_A (wG (cM cy ad) ad 40 σ) sz) (wG (cM cy ad) ad 40 σ) t) (va_A (wG (cM cy ad) ad 40 σ) sz)) 0 0 (va_A (wG (cM cy ad) ad 40 σ) sz) := by
  refine Met.ofW (cc := cX12_ones) (maxL := 3) (ret := (some .int)) (by decide) rfl ?_
  intro p e s m args below meth c s₁ B hml hv
  obtain ⟨rfl, hsz, hP, hK, hD0, hN⟩ := hv
  have hx := B.exec
  have hb := B.bytes
  have hr := B.returns
  have hts := atoms_spec (ws := wsX12_ones) B.pre
  have hown : s.vm.findClass RX12 = some m.cls := findClass_of_methodNamed B.named
  have hlocks := B.notSynchronized
  subst hsz
  have hD := hD0.self (sz := s.heap.size)
  generalize hAe : va_A (wG (cM cy ad) ad 40 σ) s.heap.size = A at hD ⊢
  have hA : ∀ q : Nat, s.heap.size ≤ q → A q := fun q h => by rw [← hAe]; exact Or.inr h
  have hS : va_S A s.heap s.heap [] := va_S.rf
  have hl := lv_entry ([.int a0]) (n := 3) (Nat.le_of_ble_eq_true rfl)
  rw [lg_entry_eq]
  generalize (lg_sl ([.int a0]) ++ List.replicate (3 - (lg_sl ([.int a0])).length) Slot.unset).toArray = ls at hl ⊢
  have hl : lv_has ls 3 [(0, .int a0)] := hl
  unfold fX12_ones at h
  clear hAe hD0
  suffices HH : ∀ (H : Heap) (locs : List Loc) (ls : Array Slot), fX12_ones_0 σ a0 = some r0 → va_P (dC, dI) vwCl (wG (cM cy ad) ad 40 σ) H → va_D A (wG (cM cy ad) ad 40 σ) → va_S A s.heap H locs → lv_has ls 3 [(0, .int a0)] → W p l e (headSpec wsX12_ones ({ frames := 1, cells := 0, slots := 0, locals := 23 })).room s m (#[.int a0]) below meth c H locs 0 0 (MQ below (va_Qi (fun (r : Int32) (_ : Unit) => r = r0) (fun (_ : Unit) t => wAt (dC, dI) A (wG (cM cy ad) ad 40 σ) t) A) (#[.int a0]) s 0 0 A) (F0 m 0 ls []) from HH s.heap [] ls h hP hD hS hl
  have w4 : ∀ (n : Nat), ∀ (σ : S2) (x0 : Int32) (x1 : Int32) (x2 : Int32) (H : Heap) (locs : List Loc) (ls : Array Slot), fX12_ones_4 n σ x0 x1 x2 = some r0 → va_P (dC, dI) vwCl (wG (cM cy ad) ad 40 σ) H → va_D A (wG (cM cy ad) ad 40 σ) → va_S A s.heap H locs → lv_has ls 3 [(0, .int x0), (1, .int x1), (2, .int x2)] → W p l e (headSpec wsX12_ones ({ frames := 1, cells := 0, slots := 0, locals := 23 })).room s m (#[.int a0]) below meth c H locs 0 0 (MQ below (va_Qi (fun (r : Int32) (_ : Unit) => r = r0) (fun (_ : Unit) t => wAt (dC, dI) A (wG (cM cy ad) ad 40 σ) t) A) (#[.int a0]) s 0 0 A) (F0 m 4 ls []) := by
    intro n
    induction n with
    | zero => intro σ x0 x1 x2 H locs ls h; cases h
    | succ n ih =>
    intro σ x0 x1 x2 H locs ls h hP hD hS hl
    unfold fX12_ones_4 at h
    refine lv_iload_n hx hb dX12_ones_4 rfl (lv_at hl 2 rfl) ?_
    refine lv_bipush (v := 12) hx hb dX12_ones_5 (by decide) ?_
    refine lv_icmp_ge (tgt := 24) hx hb dX12_ones_7 (by decide) (fun hcd => ?_) (fun hcd => ?_)
    · have h := cdP hcd h
      refine lv_iload_n hx hb dX12_ones_24 rfl (lv_at hl 1 rfl) ?_
      exact ux_iretP hx hb hr h hP hD hS hlocks dX12_ones_25
    · have h := cdN hcd h
      refine lv_iload_n hx hb dX12_ones_10 rfl (lv_at hl 1 rfl) ?_
      refine lv_iload_n hx hb dX12_ones_11 rfl (lv_at hl 0 rfl) ?_
      refine lv_iload_n hx hb dX12_ones_12 rfl (lv_at hl 2 rfl) ?_
      refine lv_ishr hx hb dX12_ones_13 ?_
      refine lv_iconst (v := 1) hx hb dX12_ones_14 (by decide) ?_
      refine lv_iand hx hb dX12_ones_15 ?_
      refine lv_iadd hx hb dX12_ones_16 ?_
      refine lv_topi (fun v1 ev1 => ?_)
      have h := nmS h ev1
      refine lv_istore_n (lv' := [(1, .int v1), (0, .int x0), (2, .int x2)]) hx hb dX12_ones_17 rfl hl (by decide) rfl (fun ls hl => ?_)
      have hl := lv_sub hl [1, 0, 2] (l' := [(0, .int x0), (1, .int v1), (2, .int x2)]) rfl
      change W _ _ _ _ _ _ _ _ _ _ _ _ _ _ _ (F0 m 18 ls [])
      obtain ⟨v2, ev2⟩ : ∃ y : Int32, y = x2 + 1 := ⟨_, rfl⟩
      have h := nmS h ev2
      refine lv_iinc (v := v2) (lv' := [(2, .int v2), (0, .int x0), (1, .int v1)]) hx hb dX12_ones_18 hl (k := 2) rfl (by rw [ev2]; rfl) (by decide) rfl (fun ls hl => ?_)
      have hl := lv_sub hl [1, 2, 0] (l' := [(0, .int x0), (1, .int v1), (2, .int v2)]) rfl
      refine lv_goto (tgt := 4) hx hb dX12_ones_21 (by decide) ?_
      exact ih σ x0 v1 v2 H locs ls h hP hD hS hl
  have w0 : ∀ (σ : S2) (x0 : Int32) (H : Heap) (locs : List Loc) (ls : Array Slot), fX12_ones_0 σ x0 = some r0 → va_P (dC, dI) vwCl (wG (cM cy ad) ad 40 σ) H → va_D A (wG (cM cy ad) ad 40 σ) → va_S A s.heap H locs → lv_has ls 3 [(0, .int x0)] → W p l e (headSpec wsX12_ones ({ frames := 1, cells := 0, slots := 0, locals := 23 })).room s m (#[.int a0]) below meth c H locs 0 0 (MQ below (va_Qi (fun (r : Int32) (_ : Unit) => r = r0) (fun (_ : Unit) t => wAt (dC, dI) A (wG (cM cy ad) ad 40 σ) t) A) (#[.int a0]) s 0 0 A) (F0 m 0 ls []) := by
    intro σ x0 H locs ls h hP hD hS hl
    unfold fX12_ones_0 at h
    refine lv_iconst (v := 0) hx hb dX12_ones_0 (by decide) ?_
    refine lv_istore_n (lv' := [(1, .int 0), (0, .int x0)]) hx hb dX12_ones_1 rfl hl (by decide) rfl (fun ls hl => ?_)
    have hl := lv_sub hl [1, 0] (l' := [(0, .int x0), (1, .int 0)]) rfl
    refine lv_iconst (v := 0) hx hb dX12_ones_2 (by decide) ?_
    refine lv_istore_n (lv' := [(2, .int 0), (0, .int x0), (1, .int 0)]) hx hb dX12_ones_3 rfl hl (by decide) rfl (fun ls hl => ?_)
    have hl := lv_sub hl [1, 2, 0] (l' := [(0, .int x0), (1, .int 0), (2, .int 0)]) rfl
    exact w4 FU σ x0 0 0 H locs ls h hP hD hS hl
  intro H locs ls h hP hD hS hl
  exact w0 σ a0 H locs ls h hP hD hS (lv_sub hl [0] rfl)

set_option maxHeartbeats 4000000 in
set_option maxRecDepth 100000 in
theorem tX12_moves (l : Launch) (dC : Nat → ClassId) (dI : Nat → Nat → Nat) (cy : Nat → ClassId) (ad : Nat → Nat) (σ : S2) (a1 : Int32) (a2 : Int32) (a3 : Int32) (sz : Nat) (r0 : Int32) (σ9 : S2) (h : fX12_moves σ a1 a2 a3 = some (r0, σ9)) : Met l yX12_moves wsX12_moves ({ frames := 6, cells := 0, slots := 0, locals := 144 }) (va_Pc [.ref (ad 0), .int a1, .int a2, .int a3] (wPre (dC, dI) cy (wG (cM cy ad) ad 40 σ) sz)) (va_Qi (fun (r : Int32) (_ : Unit) => r = r0) (fun (_ : Unit) t => wAt (dC, dI) (va_A (wG (cM cy ad) ad 40 σ) sz) (wG (cM cy ad) ad 40 σ9) t) (va_A (wG (cM cy ad) ad 40 σ) sz)) 0 0 (va_A (wG (cM cy ad) ad 40 σ) sz) := by
  refine Met.ofW (cc := cX12_moves) (maxL := 10) (ret := (some .int)) (by decide) rfl ?_
  intro p e s m args below meth c s₁ B hml hv
  obtain ⟨rfl, hsz, hP, hK, hD0, hN⟩ := hv
  have hx := B.exec
  have hb := B.bytes
  have hr := B.returns
  have hts := atoms_spec (ws := wsX12_moves) B.pre
  have hown : s.vm.findClass RX12 = some m.cls := findClass_of_methodNamed B.named
  have hlocks := B.notSynchronized
  subst hsz
  have hD := hD0.self (sz := s.heap.size)
  generalize hAe : va_A (wG (cM cy ad) ad 40 σ) s.heap.size = A at hD ⊢
  have hA : ∀ q : Nat, s.heap.size ≤ q → A q := fun q h => by rw [← hAe]; exact Or.inr h
  have hS : va_S A s.heap s.heap [] := va_S.rf
  have hl := lv_entry ([.ref (ad 0), .int a1, .int a2, .int a3]) (n := 10) (Nat.le_of_ble_eq_true rfl)
  rw [lg_entry_eq]
  generalize (lg_sl ([.ref (ad 0), .int a1, .int a2, .int a3]) ++ List.replicate (10 - (lg_sl ([.ref (ad 0), .int a1, .int a2, .int a3])).length) Slot.unset).toArray = ls at hl ⊢
  have hl : lv_has ls 10 [(0, .ref (ad 0)), (1, .int a1), (2, .int a2), (3, .int a3)] := hl
  unfold fX12_moves at h
  clear hAe hD0
  suffices HH : ∀ (H : Heap) (locs : List Loc) (ls : Array Slot), fX12_moves_0 σ a1 a2 a3 = some (r0, σ9) → va_P (dC, dI) vwCl (wG (cM cy ad) ad 40 σ) H → va_D A (wG (cM cy ad) ad 40 σ) → va_S A s.heap H locs → lv_has ls 10 [(0, .ref (ad 0)), (1, .int a1), (2, .int a2), (3, .int a3)] → W p l e (headSpec wsX12_moves ({ frames := 6, cells := 0, slots := 0, locals := 144 })).room s m (#[.ref (ad 0), .int a1, .int a2, .int a3]) below meth c H locs 0 0 (MQ below (va_Qi (fun (r : Int32) (_ : Unit) => r = r0) (fun (_ : Unit) t => wAt (dC, dI) A (wG (cM cy ad) ad 40 σ9) t) A) (#[.ref (ad 0), .int a1, .int a2, .int a3]) s 0 0 A) (F0 m 0 ls []) from HH s.heap [] ls h hP hD hS hl
  have w191 : ∀ (k117 : S2 → Int32 → Int32 → Int32 → Int32 → Int32 → Int32 → Int32 → Option (Int32 × S2)) (hk117 : ∀ (σ : S2) (x1 : Int32) (x2 : Int32) (x3 : Int32) (x4 : Int32) (x5 : Int32) (x6 : Int32) (x7 : Int32) (H : Heap) (locs : List Loc) (ls : Array Slot), k117 σ x1 x2 x3 x4 x5 x6 x7 = some (r0, σ9) → va_P (dC, dI) vwCl (wG (cM cy ad) ad 40 σ) H → va_D A (wG (cM cy ad) ad 40 σ) → va_S A s.heap H locs → lv_has ls 10 [(0, .ref (ad 0)), (1, .int x1), (2, .int x2), (3, .int x3), (4, .int x4), (5, .int x5), (6, .int x6), (7, .int x7)] → W p l e (headSpec wsX12_moves ({ frames := 6, cells := 0, slots := 0, locals := 144 })).room s m (#[.ref (ad 0), .int a1, .int a2, .int a3]) below meth c H locs 0 0 (MQ below (va_Qi (fun (r : Int32) (_ : Unit) => r = r0) (fun (_ : Unit) t => wAt (dC, dI) A (wG (cM cy ad) ad 40 σ9) t) A) (#[.ref (ad 0), .int a1, .int a2, .int a3]) s 0 0 A) (F0 m 117 ls [])) , ∀ (σ : S2) (x1 : Int32) (x2 : Int32) (x3 : Int32) (x4 : Int32) (x5 : Int32) (x7 : Int32) (s0 : Int32) (s1 : Int32) (H : Heap) (locs : List Loc) (ls : Array Slot), fX12_moves_191 k117 σ x1 x2 x3 x4 x5 x7 s0 s1 = some (r0, σ9) → va_P (dC, dI) vwCl (wG (cM cy ad) ad 40 σ) H → va_D A (wG (cM cy ad) ad 40 σ) → va_S A s.heap H locs → lv_has ls 10 [(0, .ref (ad 0)), (1, .int x1), (2, .int x2), (3, .int x3), (4, .int x4), (5, .int x5), (7, .int x7)] → W p l e (headSpec wsX12_moves ({ frames := 6, cells := 0, slots := 0, locals := 144 })).room s m (#[.ref (ad 0), .int a1, .int a2, .int a3]) below meth c H locs 0 0 (MQ below (va_Qi (fun (r : Int32) (_ : Unit) => r = r0) (fun (_ : Unit) t => wAt (dC, dI) A (wG (cM cy ad) ad 40 σ9) t) A) (#[.ref (ad 0), .int a1, .int a2, .int a3]) s 0 0 A) (F0 m 191 ls [.int s0, .int s1]) := by
    intro k117 hk117 σ x1 x2 x3 x4 x5 x7 s0 s1 H locs ls h hP hD hS hl
    unfold fX12_moves_191 at h
    refine lv_iadd hx hb dX12_moves_191 ?_
    refine lv_topi (fun v1 ev1 => ?_)
    have h := nmS h ev1
    refine lv_istore (lv' := [(6, .int v1), (0, .ref (ad 0)), (1, .int x1), (2, .int x2), (3, .int x3), (4, .int x4), (5, .int x5), (7, .int x7)]) hx hb dX12_moves_192 hl (by decide) rfl (fun ls hl => ?_)
    have hl := lv_sub hl [1, 2, 3, 4, 5, 6, 0, 7] (l' := [(0, .ref (ad 0)), (1, .int x1), (2, .int x2), (3, .int x3), (4, .int x4), (5, .int x5), (6, .int v1), (7, .int x7)]) rfl
    obtain ⟨v2, ev2⟩ : ∃ y : Int32, y = x7 + 1 := ⟨_, rfl⟩
    have h := nmS h ev2
    refine lv_iinc (v := v2) (lv' := [(7, .int v2), (0, .ref (ad 0)), (1, .int x1), (2, .int x2), (3, .int x3), (4, .int x4), (5, .int x5), (6, .int v1)]) hx hb dX12_moves_194 hl (k := 7) rfl (by rw [ev2]; rfl) (by decide) rfl (fun ls hl => ?_)
    have hl := lv_sub hl [1, 2, 3, 4, 5, 6, 7, 0] (l' := [(0, .ref (ad 0)), (1, .int x1), (2, .int x2), (3, .int x3), (4, .int x4), (5, .int x5), (6, .int v1), (7, .int v2)]) rfl
    refine lv_goto (tgt := 117) hx hb dX12_moves_197 (by decide) ?_
    exact hk117 σ x1 x2 x3 x4 x5 v1 v2 H locs ls h hP hD hS hl
  have w117 : ∀ (n : Nat), ∀ (σ : S2) (x1 : Int32) (x2 : Int32) (x3 : Int32) (x4 : Int32) (x5 : Int32) (x6 : Int32) (x7 : Int32) (H : Heap) (locs : List Loc) (ls : Array Slot), fX12_moves_117 n σ x1 x2 x3 x4 x5 x6 x7 = some (r0, σ9) → va_P (dC, dI) vwCl (wG (cM cy ad) ad 40 σ) H → va_D A (wG (cM cy ad) ad 40 σ) → va_S A s.heap H locs → lv_has ls 10 [(0, .ref (ad 0)), (1, .int x1), (2, .int x2), (3, .int x3), (4, .int x4), (5, .int x5), (6, .int x6), (7, .int x7)] → W p l e (headSpec wsX12_moves ({ frames := 6, cells := 0, slots := 0, locals := 144 })).room s m (#[.ref (ad 0), .int a1, .int a2, .int a3]) below meth c H locs 0 0 (MQ below (va_Qi (fun (r : Int32) (_ : Unit) => r = r0) (fun (_ : Unit) t => wAt (dC, dI) A (wG (cM cy ad) ad 40 σ9) t) A) (#[.ref (ad 0), .int a1, .int a2, .int a3]) s 0 0 A) (F0 m 117 ls []) := by
    intro n
    induction n with
    | zero => intro σ x1 x2 x3 x4 x5 x6 x7 H locs ls h; cases h
    | succ n ih =>
    intro σ x1 x2 x3 x4 x5 x6 x7 H locs ls h hP hD hS hl
    unfold fX12_moves_117 at h
    refine lv_iload hx hb dX12_moves_117 (lv_at hl 7 rfl) ?_
    refine lv_aload_n hx hb dX12_moves_119 rfl (lv_at hl 0 rfl) ?_
    refine ux_get (D := (dC, dI)) (ci := 12) (v := .int (σ.1 0 0)) (C := RX12) (T := TX12) (M := 59) (fs := (oM ad (σ.1 0))) hx hb hts (fun _ h9 => List.mem_cons_of_mem _ (List.mem_append_right _ h9)) hown hK hP 0 (Nat.le_of_ble_eq_true rfl) rfl rfl 0 (by decide) (hts (.fieldLink RX12 133 "SeatsRoundModel" "names" "I") (List.mem_of_getElem? (i := 3) rfl)) (fun _ h9 => h9) rfl dX12_moves_120 ?_
    refine lv_icmp_ge (tgt := 200) hx hb dX12_moves_123 (by decide) (fun hcd => ?_) (fun hcd => ?_)
    · have h := cdP hcd h
      refine lv_iload_n hx hb dX12_moves_200 rfl (lv_at hl 3 rfl) ?_
      refine lv_if_ne (tgt := 209) hx hb dX12_moves_201 (by decide) (fun hcd => ?_) (fun hcd => ?_)
      · have h := cdN hcd h
        refine lv_iload hx hb dX12_moves_209 (lv_at hl 6 rfl) ?_
        exact ux_iret hx hb hr h hP hD hS hlocks dX12_moves_211
      · have h := cdP hcd h
        refine lv_iload hx hb dX12_moves_204 (lv_at hl 5 rfl) ?_
        refine lv_goto (tgt := 211) hx hb dX12_moves_206 (by decide) ?_
        exact ux_iret hx hb hr h hP hD hS hlocks dX12_moves_211
    · have h := cdN hcd h
      refine lv_aload_n hx hb dX12_moves_126 rfl (lv_at hl 0 rfl) ?_
      refine lv_iload_n hx hb dX12_moves_127 rfl (lv_at hl 1 rfl) ?_
      refine lv_iload hx hb dX12_moves_128 (lv_at hl 7 rfl) ?_
      obtain ⟨r3, σ4, hf5, h⟩ := bsS h
      refine ux_callv (va_runV (As := [.int x1, .int x7]) (rest := []) ⟨hx, hb, hml, hown, hts⟩ (tX12_chooseName l dC dI cy ad σ x1 x7 H.size r3 σ4 hf5) (cwV 2 hts gX12_moves_X12_chooseName rfl rfl rfl (by decide +kernel) ⟨Nat.le_of_ble_eq_true rfl, Nat.le_of_ble_eq_true rfl⟩) (wp_V hK hN hP hD (va_recv hK hP (ci := 12) (q0 := 0) rfl (wG_of (Nat.le_of_ble_eq_true rfl) rfl))) rfl rfl hl.1 rfl (lv_room (Nat.le_of_ble_eq_true rfl)) dX12_moves_130 ⟨Nat.le_of_ble_eq_true rfl, Nat.le_of_ble_eq_true rfl⟩) hD hS hA (fun H locs hP hD hS => ?_)
      refine lv_aload_n hx hb dX12_moves_133 rfl (lv_at hl 0 rfl) ?_
      obtain ⟨r6, hf7, h⟩ := biS h
      refine ux_calli (va_runV (As := []) (rest := []) ⟨hx, hb, hml, hown, hts⟩ (tX12_bits l dC dI cy ad σ4 H.size r6 hf7) (cwV 0 hts gX12_moves_X12_bits rfl rfl rfl (by decide +kernel) ⟨Nat.le_of_ble_eq_true rfl, Nat.le_of_ble_eq_true rfl⟩) (wp_V hK hN hP hD (va_recv hK hP (ci := 12) (q0 := 0) rfl (wG_of (Nat.le_of_ble_eq_true rfl) rfl))) rfl rfl hl.1 rfl (lv_room (Nat.le_of_ble_eq_true rfl)) dX12_moves_134 ⟨Nat.le_of_ble_eq_true rfl, Nat.le_of_ble_eq_true rfl⟩) hD hS hA (fun H locs hP hD hS => ?_)
      refine lv_istore (lv' := [(8, .int r6), (0, .ref (ad 0)), (1, .int x1), (2, .int x2), (3, .int x3), (4, .int x4), (5, .int x5), (6, .int x6), (7, .int x7)]) hx hb dX12_moves_137 hl (by decide) rfl (fun ls hl => ?_)
      have hl := lv_sub hl [1, 2, 3, 4, 5, 6, 7, 8, 0] (l' := [(0, .ref (ad 0)), (1, .int x1), (2, .int x2), (3, .int x3), (4, .int x4), (5, .int x5), (6, .int x6), (7, .int x7), (8, .int r6)]) rfl
      refine lv_aload_n hx hb dX12_moves_139 rfl (lv_at hl 0 rfl) ?_
      refine lv_iload_n hx hb dX12_moves_140 rfl (lv_at hl 2 rfl) ?_
      refine lv_iload hx hb dX12_moves_141 (lv_at hl 7 rfl) ?_
      obtain ⟨r8, σ9, hf10, h⟩ := bsS h
      refine ux_callv (va_runV (As := [.int x2, .int x7]) (rest := []) ⟨hx, hb, hml, hown, hts⟩ (tX12_chooseName l dC dI cy ad σ4 x2 x7 H.size r8 σ9 hf10) (cwV 2 hts gX12_moves_X12_chooseName rfl rfl rfl (by decide +kernel) ⟨Nat.le_of_ble_eq_true rfl, Nat.le_of_ble_eq_true rfl⟩) (wp_V hK hN hP hD (va_recv hK hP (ci := 12) (q0 := 0) rfl (wG_of (Nat.le_of_ble_eq_true rfl) rfl))) rfl rfl hl.1 rfl (lv_room (Nat.le_of_ble_eq_true rfl)) dX12_moves_143 ⟨Nat.le_of_ble_eq_true rfl, Nat.le_of_ble_eq_true rfl⟩) hD hS hA (fun H locs hP hD hS => ?_)
      refine lv_aload_n hx hb dX12_moves_146 rfl (lv_at hl 0 rfl) ?_
      obtain ⟨r11, hf12, h⟩ := biS h
      refine ux_calli (va_runV (As := []) (rest := []) ⟨hx, hb, hml, hown, hts⟩ (tX12_bits l dC dI cy ad σ9 H.size r11 hf12) (cwV 0 hts gX12_moves_X12_bits rfl rfl rfl (by decide +kernel) ⟨Nat.le_of_ble_eq_true rfl, Nat.le_of_ble_eq_true rfl⟩) (wp_V hK hN hP hD (va_recv hK hP (ci := 12) (q0 := 0) rfl (wG_of (Nat.le_of_ble_eq_true rfl) rfl))) rfl rfl hl.1 rfl (lv_room (Nat.le_of_ble_eq_true rfl)) dX12_moves_147 ⟨Nat.le_of_ble_eq_true rfl, Nat.le_of_ble_eq_true rfl⟩) hD hS hA (fun H locs hP hD hS => ?_)
      refine lv_iload hx hb dX12_moves_150 (lv_at hl 8 rfl) ?_
      refine lv_iconst (v := (-1)) hx hb dX12_moves_152 (by decide) ?_
      refine lv_ixor hx hb dX12_moves_153 ?_
      refine lv_iand hx hb dX12_moves_154 ?_
      refine lv_topi (fun v13 ev13 => ?_)
      have h := nmS h ev13
      refine lv_istore (lv' := [(9, .int v13), (0, .ref (ad 0)), (1, .int x1), (2, .int x2), (3, .int x3), (4, .int x4), (5, .int x5), (6, .int x6), (7, .int x7), (8, .int r6)]) hx hb dX12_moves_155 hl (by decide) rfl (fun ls hl => ?_)
      have hl := lv_sub hl [1, 2, 3, 4, 5, 6, 7, 8, 9, 0] (l' := [(0, .ref (ad 0)), (1, .int x1), (2, .int x2), (3, .int x3), (4, .int x4), (5, .int x5), (6, .int x6), (7, .int x7), (8, .int r6), (9, .int v13)]) rfl
      refine lv_iload hx hb dX12_moves_157 (lv_at hl 5 rfl) ?_
      refine lv_iload hx hb dX12_moves_159 (lv_at hl 9 rfl) ?_
      obtain ⟨r14, hf15, h⟩ := biS h
      refine ux_calli (va_runS (As := [.int v13]) (rest := [.int x5]) ⟨hx, hb, hml, hown, hts⟩ (tX12_ones l dC dI cy ad σ9 v13 H.size r14 hf15) (va_cwS 1 hts gX12_moves_X12_ones rfl rfl rfl (by decide +kernel) ⟨Nat.le_of_ble_eq_true rfl, Nat.le_of_ble_eq_true rfl⟩) (wp_S hK hN hP hD) rfl rfl hl.1 rfl (lv_room (Nat.le_of_ble_eq_true rfl)) dX12_moves_161 ⟨Nat.le_of_ble_eq_true rfl, Nat.le_of_ble_eq_true rfl⟩) hD hS hA (fun H locs hP hD hS => ?_)
      refine lv_iadd hx hb dX12_moves_164 ?_
      refine lv_topi (fun v16 ev16 => ?_)
      have h := nmS h ev16
      refine lv_istore (lv' := [(5, .int v16), (0, .ref (ad 0)), (1, .int x1), (2, .int x2), (3, .int x3), (4, .int x4), (6, .int x6), (7, .int x7), (8, .int r6), (9, .int v13)]) hx hb dX12_moves_165 hl (by decide) rfl (fun ls hl => ?_)
      have hl := lv_sub hl [1, 2, 3, 4, 5, 0, 6, 7, 8, 9] (l' := [(0, .ref (ad 0)), (1, .int x1), (2, .int x2), (3, .int x3), (4, .int x4), (5, .int v16), (6, .int x6), (7, .int x7), (8, .int r6), (9, .int v13)]) rfl
      refine lv_iload hx hb dX12_moves_167 (lv_at hl 6 rfl) ?_
      refine lv_iload hx hb dX12_moves_169 (lv_at hl 8 rfl) ?_
      refine lv_iload hx hb dX12_moves_171 (lv_at hl 4 rfl) ?_
      refine lv_iconst (v := (-1)) hx hb dX12_moves_173 (by decide) ?_
      refine lv_ixor hx hb dX12_moves_174 ?_
      refine lv_iand hx hb dX12_moves_175 ?_
      refine lv_if_ne (tgt := 190) hx hb dX12_moves_176 (by decide) (fun hcd => ?_) (fun hcd => ?_)
      · have h := cdN hcd h
        refine lv_iconst (v := 0) hx hb dX12_moves_190 (by decide) ?_
        exact w191 _ ih σ9 x1 x2 x3 x4 v16 x7 0 x6 H locs ls h hP hD hS (lv_sub hl [0, 1, 2, 3, 4, 5, 7] rfl)
      · have h := cdP hcd h
        refine lv_iload hx hb dX12_moves_179 (lv_at hl 9 rfl) ?_
        refine lv_iload hx hb dX12_moves_181 (lv_at hl 4 rfl) ?_
        refine lv_iand hx hb dX12_moves_183 ?_
        obtain ⟨r17, hf18, h⟩ := biS h
        refine ux_calli (va_runS (As := [.int (v13 &&& x4)]) (rest := [.int x6]) ⟨hx, hb, hml, hown, hts⟩ (tX12_ones l dC dI cy ad σ9 (v13 &&& x4) H.size r17 hf18) (va_cwS 1 hts gX12_moves_X12_ones rfl rfl rfl (by decide +kernel) ⟨Nat.le_of_ble_eq_true rfl, Nat.le_of_ble_eq_true rfl⟩) (wp_S hK hN hP hD) rfl rfl hl.1 rfl (lv_room (Nat.le_of_ble_eq_true rfl)) dX12_moves_184 ⟨Nat.le_of_ble_eq_true rfl, Nat.le_of_ble_eq_true rfl⟩) hD hS hA (fun H locs hP hD hS => ?_)
        refine lv_goto (tgt := 191) hx hb dX12_moves_187 (by decide) ?_
        exact w191 _ ih σ9 x1 x2 x3 x4 v16 x7 r17 x6 H locs ls h hP hD hS (lv_sub hl [0, 1, 2, 3, 4, 5, 7] rfl)
  have w99 : ∀ (k33 : S2 → Int32 → Int32 → Int32 → Int32 → Int32 → Option (Int32 × S2)) (hk33 : ∀ (σ : S2) (x1 : Int32) (x2 : Int32) (x3 : Int32) (x4 : Int32) (x5 : Int32) (H : Heap) (locs : List Loc) (ls : Array Slot), k33 σ x1 x2 x3 x4 x5 = some (r0, σ9) → va_P (dC, dI) vwCl (wG (cM cy ad) ad 40 σ) H → va_D A (wG (cM cy ad) ad 40 σ) → va_S A s.heap H locs → lv_has ls 10 [(0, .ref (ad 0)), (1, .int x1), (2, .int x2), (3, .int x3), (4, .int x4), (5, .int x5)] → W p l e (headSpec wsX12_moves ({ frames := 6, cells := 0, slots := 0, locals := 144 })).room s m (#[.ref (ad 0), .int a1, .int a2, .int a3]) below meth c H locs 0 0 (MQ below (va_Qi (fun (r : Int32) (_ : Unit) => r = r0) (fun (_ : Unit) t => wAt (dC, dI) A (wG (cM cy ad) ad 40 σ9) t) A) (#[.ref (ad 0), .int a1, .int a2, .int a3]) s 0 0 A) (F0 m 33 ls [])) , ∀ (σ : S2) (x1 : Int32) (x2 : Int32) (x3 : Int32) (x5 : Int32) (s0 : Int32) (s1 : Int32) (H : Heap) (locs : List Loc) (ls : Array Slot), fX12_moves_99 k33 σ x1 x2 x3 x5 s0 s1 = some (r0, σ9) → va_P (dC, dI) vwCl (wG (cM cy ad) ad 40 σ) H → va_D A (wG (cM cy ad) ad 40 σ) → va_S A s.heap H locs → lv_has ls 10 [(0, .ref (ad 0)), (1, .int x1), (2, .int x2), (3, .int x3), (5, .int x5)] → W p l e (headSpec wsX12_moves ({ frames := 6, cells := 0, slots := 0, locals := 144 })).room s m (#[.ref (ad 0), .int a1, .int a2, .int a3]) below meth c H locs 0 0 (MQ below (va_Qi (fun (r : Int32) (_ : Unit) => r = r0) (fun (_ : Unit) t => wAt (dC, dI) A (wG (cM cy ad) ad 40 σ9) t) A) (#[.ref (ad 0), .int a1, .int a2, .int a3]) s 0 0 A) (F0 m 99 ls [.int s0, .int s1]) := by
    intro k33 hk33 σ x1 x2 x3 x5 s0 s1 H locs ls h hP hD hS hl
    unfold fX12_moves_99 at h
    refine lv_ior hx hb dX12_moves_99 ?_
    refine lv_topi (fun v19 ev19 => ?_)
    have h := nmS h ev19
    refine lv_istore (lv' := [(4, .int v19), (0, .ref (ad 0)), (1, .int x1), (2, .int x2), (3, .int x3), (5, .int x5)]) hx hb dX12_moves_100 hl (by decide) rfl (fun ls hl => ?_)
    have hl := lv_sub hl [1, 2, 3, 4, 0, 5] (l' := [(0, .ref (ad 0)), (1, .int x1), (2, .int x2), (3, .int x3), (4, .int v19), (5, .int x5)]) rfl
    obtain ⟨v20, ev20⟩ : ∃ y : Int32, y = x5 + 1 := ⟨_, rfl⟩
    have h := nmS h ev20
    refine lv_iinc (v := v20) (lv' := [(5, .int v20), (0, .ref (ad 0)), (1, .int x1), (2, .int x2), (3, .int x3), (4, .int v19)]) hx hb dX12_moves_102 hl (k := 5) rfl (by rw [ev20]; rfl) (by decide) rfl (fun ls hl => ?_)
    have hl := lv_sub hl [1, 2, 3, 4, 5, 0] (l' := [(0, .ref (ad 0)), (1, .int x1), (2, .int x2), (3, .int x3), (4, .int v19), (5, .int v20)]) rfl
    refine lv_goto (tgt := 33) hx hb dX12_moves_105 (by decide) ?_
    exact hk33 σ x1 x2 x3 v19 v20 H locs ls h hP hD hS hl
  have w98 : ∀ (k33 : S2 → Int32 → Int32 → Int32 → Int32 → Int32 → Option (Int32 × S2)) (hk33 : ∀ (σ : S2) (x1 : Int32) (x2 : Int32) (x3 : Int32) (x4 : Int32) (x5 : Int32) (H : Heap) (locs : List Loc) (ls : Array Slot), k33 σ x1 x2 x3 x4 x5 = some (r0, σ9) → va_P (dC, dI) vwCl (wG (cM cy ad) ad 40 σ) H → va_D A (wG (cM cy ad) ad 40 σ) → va_S A s.heap H locs → lv_has ls 10 [(0, .ref (ad 0)), (1, .int x1), (2, .int x2), (3, .int x3), (4, .int x4), (5, .int x5)] → W p l e (headSpec wsX12_moves ({ frames := 6, cells := 0, slots := 0, locals := 144 })).room s m (#[.ref (ad 0), .int a1, .int a2, .int a3]) below meth c H locs 0 0 (MQ below (va_Qi (fun (r : Int32) (_ : Unit) => r = r0) (fun (_ : Unit) t => wAt (dC, dI) A (wG (cM cy ad) ad 40 σ9) t) A) (#[.ref (ad 0), .int a1, .int a2, .int a3]) s 0 0 A) (F0 m 33 ls [])) , ∀ (σ : S2) (x1 : Int32) (x2 : Int32) (x3 : Int32) (x5 : Int32) (s0 : Int32) (H : Heap) (locs : List Loc) (ls : Array Slot), fX12_moves_98 k33 σ x1 x2 x3 x5 s0 = some (r0, σ9) → va_P (dC, dI) vwCl (wG (cM cy ad) ad 40 σ) H → va_D A (wG (cM cy ad) ad 40 σ) → va_S A s.heap H locs → lv_has ls 10 [(0, .ref (ad 0)), (1, .int x1), (2, .int x2), (3, .int x3), (5, .int x5)] → W p l e (headSpec wsX12_moves ({ frames := 6, cells := 0, slots := 0, locals := 144 })).room s m (#[.ref (ad 0), .int a1, .int a2, .int a3]) below meth c H locs 0 0 (MQ below (va_Qi (fun (r : Int32) (_ : Unit) => r = r0) (fun (_ : Unit) t => wAt (dC, dI) A (wG (cM cy ad) ad 40 σ9) t) A) (#[.ref (ad 0), .int a1, .int a2, .int a3]) s 0 0 A) (F0 m 98 ls [.int s0]) := by
    intro k33 hk33 σ x1 x2 x3 x5 s0 H locs ls h hP hD hS hl
    unfold fX12_moves_98 at h
    refine lv_iconst (v := 0) hx hb dX12_moves_98 (by decide) ?_
    exact w99 _ hk33 σ x1 x2 x3 x5 0 s0 H locs ls h hP hD hS hl
  have w33 : ∀ (n : Nat), ∀ (σ : S2) (x1 : Int32) (x2 : Int32) (x3 : Int32) (x4 : Int32) (x5 : Int32) (H : Heap) (locs : List Loc) (ls : Array Slot), fX12_moves_33 n σ x1 x2 x3 x4 x5 = some (r0, σ9) → va_P (dC, dI) vwCl (wG (cM cy ad) ad 40 σ) H → va_D A (wG (cM cy ad) ad 40 σ) → va_S A s.heap H locs → lv_has ls 10 [(0, .ref (ad 0)), (1, .int x1), (2, .int x2), (3, .int x3), (4, .int x4), (5, .int x5)] → W p l e (headSpec wsX12_moves ({ frames := 6, cells := 0, slots := 0, locals := 144 })).room s m (#[.ref (ad 0), .int a1, .int a2, .int a3]) below meth c H locs 0 0 (MQ below (va_Qi (fun (r : Int32) (_ : Unit) => r = r0) (fun (_ : Unit) t => wAt (dC, dI) A (wG (cM cy ad) ad 40 σ9) t) A) (#[.ref (ad 0), .int a1, .int a2, .int a3]) s 0 0 A) (F0 m 33 ls []) := by
    intro n
    induction n with
    | zero => intro σ x1 x2 x3 x4 x5 H locs ls h; cases h
    | succ n ih =>
    intro σ x1 x2 x3 x4 x5 H locs ls h hP hD hS hl
    unfold fX12_moves_33 at h
    refine lv_iload hx hb dX12_moves_33 (lv_at hl 5 rfl) ?_
    refine lv_aload_n hx hb dX12_moves_35 rfl (lv_at hl 0 rfl) ?_
    refine ux_get (D := (dC, dI)) (ci := 12) (v := .int (σ.1 0 3)) (C := RX12) (T := TX12) (M := 59) (fs := (oM ad (σ.1 0))) hx hb hts (fun _ h9 => List.mem_cons_of_mem _ (List.mem_append_right _ h9)) hown hK hP 0 (Nat.le_of_ble_eq_true rfl) rfl rfl 3 (by decide) (hts (.fieldLink RX12 140 "SeatsRoundModel" "keepers" "I") (List.mem_of_getElem? (i := 1) rfl)) (fun _ h9 => h9) rfl dX12_moves_36 ?_
    refine lv_icmp_ge (tgt := 108) hx hb dX12_moves_39 (by decide) (fun hcd => ?_) (fun hcd => ?_)
    · have h := cdP hcd h
      refine lv_iconst (v := 0) hx hb dX12_moves_108 (by decide) ?_
      refine lv_istore (lv' := [(5, .int 0), (0, .ref (ad 0)), (1, .int x1), (2, .int x2), (3, .int x3), (4, .int x4)]) hx hb dX12_moves_109 hl (by decide) rfl (fun ls hl => ?_)
      have hl := lv_sub hl [1, 2, 3, 4, 5, 0] (l' := [(0, .ref (ad 0)), (1, .int x1), (2, .int x2), (3, .int x3), (4, .int x4), (5, .int 0)]) rfl
      refine lv_iconst (v := 0) hx hb dX12_moves_111 (by decide) ?_
      refine lv_istore (lv' := [(6, .int 0), (0, .ref (ad 0)), (1, .int x1), (2, .int x2), (3, .int x3), (4, .int x4), (5, .int 0)]) hx hb dX12_moves_112 hl (by decide) rfl (fun ls hl => ?_)
      have hl := lv_sub hl [1, 2, 3, 4, 5, 6, 0] (l' := [(0, .ref (ad 0)), (1, .int x1), (2, .int x2), (3, .int x3), (4, .int x4), (5, .int 0), (6, .int 0)]) rfl
      refine lv_iconst (v := 0) hx hb dX12_moves_114 (by decide) ?_
      refine lv_istore (lv' := [(7, .int 0), (0, .ref (ad 0)), (1, .int x1), (2, .int x2), (3, .int x3), (4, .int x4), (5, .int 0), (6, .int 0)]) hx hb dX12_moves_115 hl (by decide) rfl (fun ls hl => ?_)
      have hl := lv_sub hl [1, 2, 3, 4, 5, 6, 7, 0] (l' := [(0, .ref (ad 0)), (1, .int x1), (2, .int x2), (3, .int x3), (4, .int x4), (5, .int 0), (6, .int 0), (7, .int 0)]) rfl
      exact w117 FU σ x1 x2 x3 x4 0 0 0 H locs ls h hP hD hS hl
    · have h := cdN hcd h
      refine lv_iload hx hb dX12_moves_42 (lv_at hl 4 rfl) ?_
      refine lv_aload_n hx hb dX12_moves_44 rfl (lv_at hl 0 rfl) ?_
      refine lv_iload_n hx hb dX12_moves_45 rfl (lv_at hl 1 rfl) ?_
      refine lv_iload hx hb dX12_moves_46 (lv_at hl 5 rfl) ?_
      obtain ⟨r21, hf22, h⟩ := biS h
      refine ux_calli (va_runV (As := [.int x1, .int x5]) (rest := [.int x4]) ⟨hx, hb, hml, hown, hts⟩ (tX12_isIn l dC dI cy ad σ x1 x5 H.size r21 hf22) (cwV 2 hts gX12_moves_X12_isIn rfl rfl rfl (by decide +kernel) ⟨Nat.le_of_ble_eq_true rfl, Nat.le_of_ble_eq_true rfl⟩) (wp_V hK hN hP hD (va_recv hK hP (ci := 12) (q0 := 0) rfl (wG_of (Nat.le_of_ble_eq_true rfl) rfl))) rfl rfl hl.1 rfl (lv_room (Nat.le_of_ble_eq_true rfl)) dX12_moves_48 ⟨Nat.le_of_ble_eq_true rfl, Nat.le_of_ble_eq_true rfl⟩) hD hS hA (fun H locs hP hD hS => ?_)
      refine lv_if_eq (tgt := 98) hx hb dX12_moves_51 (by decide) (fun hcd => ?_) (fun hcd => ?_)
      · have h := cdP hcd h
        exact w98 _ ih σ x1 x2 x3 x5 x4 H locs ls h hP hD hS (lv_sub hl [0, 1, 2, 3, 5] rfl)
      · have h := cdN hcd h
        refine lv_aload_n hx hb dX12_moves_54 rfl (lv_at hl 0 rfl) ?_
        refine lv_iload_n hx hb dX12_moves_55 rfl (lv_at hl 2 rfl) ?_
        refine lv_iload hx hb dX12_moves_56 (lv_at hl 5 rfl) ?_
        obtain ⟨r23, hf24, h⟩ := biS h
        refine ux_calli (va_runV (As := [.int x2, .int x5]) (rest := [.int x4]) ⟨hx, hb, hml, hown, hts⟩ (tX12_isIn l dC dI cy ad σ x2 x5 H.size r23 hf24) (cwV 2 hts gX12_moves_X12_isIn rfl rfl rfl (by decide +kernel) ⟨Nat.le_of_ble_eq_true rfl, Nat.le_of_ble_eq_true rfl⟩) (wp_V hK hN hP hD (va_recv hK hP (ci := 12) (q0 := 0) rfl (wG_of (Nat.le_of_ble_eq_true rfl) rfl))) rfl rfl hl.1 rfl (lv_room (Nat.le_of_ble_eq_true rfl)) dX12_moves_58 ⟨Nat.le_of_ble_eq_true rfl, Nat.le_of_ble_eq_true rfl⟩) hD hS hA (fun H locs hP hD hS => ?_)
        refine lv_if_eq (tgt := 98) hx hb dX12_moves_61 (by decide) (fun hcd => ?_) (fun hcd => ?_)
        · have h := cdP hcd h
          exact w98 _ ih σ x1 x2 x3 x5 x4 H locs ls h hP hD hS (lv_sub hl [0, 1, 2, 3, 5] rfl)
        · have h := cdN hcd h
          refine lv_aload_n hx hb dX12_moves_64 rfl (lv_at hl 0 rfl) ?_
          refine ux_get (D := (dC, dI)) (ci := 12) (v := .ref (ad 15)) (C := RX12) (T := TX12) (M := 59) (fs := (oM ad (σ.1 0))) hx hb hts (fun _ h9 => List.mem_cons_of_mem _ (List.mem_append_right _ h9)) hown hK hP 0 (Nat.le_of_ble_eq_true rfl) rfl rfl 17 (by decide) (hts (.fieldLink RX12 53 "SeatsRoundModel" "counts" "[I") (List.mem_of_getElem? (i := 2) rfl)) (fun _ h9 => h9) rfl dX12_moves_65 ?_
          refine lv_bipush (v := 12) hx hb dX12_moves_68 (by decide) ?_
          refine lv_iload_n hx hb dX12_moves_70 rfl (lv_at hl 1 rfl) ?_
          refine lv_imul hx hb dX12_moves_71 ?_
          refine lv_iload hx hb dX12_moves_72 (lv_at hl 5 rfl) ?_
          refine lv_iadd hx hb dX12_moves_74 ?_
          refine ux_iald hx hb hK hP 15 0 (Nat.le_of_ble_eq_true rfl) (cM_15 _ _ _ _) rfl h dX12_moves_75 (fun v25 h => ?_)
          change W _ _ _ _ _ _ _ _ _ _ _ _ _ _ _ (F0 m 76 ls [.int v25, .int x4])
          refine lv_aload_n hx hb dX12_moves_76 rfl (lv_at hl 0 rfl) ?_
          refine ux_get (D := (dC, dI)) (ci := 12) (v := .ref (ad 15)) (C := RX12) (T := TX12) (M := 59) (fs := (oM ad (σ.1 0))) hx hb hts (fun _ h9 => List.mem_cons_of_mem _ (List.mem_append_right _ h9)) hown hK hP 0 (Nat.le_of_ble_eq_true rfl) rfl rfl 17 (by decide) (hts (.fieldLink RX12 53 "SeatsRoundModel" "counts" "[I") (List.mem_of_getElem? (i := 2) rfl)) (fun _ h9 => h9) rfl dX12_moves_77 ?_
          refine lv_bipush (v := 12) hx hb dX12_moves_80 (by decide) ?_
          refine lv_iload_n hx hb dX12_moves_82 rfl (lv_at hl 2 rfl) ?_
          refine lv_imul hx hb dX12_moves_83 ?_
          refine lv_iload hx hb dX12_moves_84 (lv_at hl 5 rfl) ?_
          refine lv_iadd hx hb dX12_moves_86 ?_
          refine ux_iald hx hb hK hP 15 0 (Nat.le_of_ble_eq_true rfl) (cM_15 _ _ _ _) rfl h dX12_moves_87 (fun v26 h => ?_)
          change W _ _ _ _ _ _ _ _ _ _ _ _ _ _ _ (F0 m 88 ls [.int v26, .int v25, .int x4])
          refine lv_icmp_ne (tgt := 98) hx hb dX12_moves_88 (by decide) (fun hcd => ?_) (fun hcd => ?_)
          · have h := cdN hcd h
            exact w98 _ ih σ x1 x2 x3 x5 x4 H locs ls h hP hD hS (lv_sub hl [0, 1, 2, 3, 5] rfl)
          · have h := cdP hcd h
            refine lv_iconst (v := 1) hx hb dX12_moves_91 (by decide) ?_
            refine lv_iload hx hb dX12_moves_92 (lv_at hl 5 rfl) ?_
            refine lv_ishl hx hb dX12_moves_94 ?_
            refine lv_goto (tgt := 99) hx hb dX12_moves_95 (by decide) ?_
            exact w99 _ ih σ x1 x2 x3 x5 (1 <<< (x5 &&& 31)) x4 H locs ls h hP hD hS (lv_sub hl [0, 1, 2, 3, 5] rfl)
  have w0 : ∀ (σ : S2) (x1 : Int32) (x2 : Int32) (x3 : Int32) (H : Heap) (locs : List Loc) (ls : Array Slot), fX12_moves_0 σ x1 x2 x3 = some (r0, σ9) → va_P (dC, dI) vwCl (wG (cM cy ad) ad 40 σ) H → va_D A (wG (cM cy ad) ad 40 σ) → va_S A s.heap H locs → lv_has ls 10 [(0, .ref (ad 0)), (1, .int x1), (2, .int x2), (3, .int x3)] → W p l e (headSpec wsX12_moves ({ frames := 6, cells := 0, slots := 0, locals := 144 })).room s m (#[.ref (ad 0), .int a1, .int a2, .int a3]) below meth c H locs 0 0 (MQ below (va_Qi (fun (r : Int32) (_ : Unit) => r = r0) (fun (_ : Unit) t => wAt (dC, dI) A (wG (cM cy ad) ad 40 σ9) t) A) (#[.ref (ad 0), .int a1, .int a2, .int a3]) s 0 0 A) (F0 m 0 ls []) := by
    intro σ x1 x2 x3 H locs ls h hP hD hS hl
    unfold fX12_moves_0 at h
    refine lv_aload_n hx hb dX12_moves_0 rfl (lv_at hl 0 rfl) ?_
    refine lv_iload_n hx hb dX12_moves_1 rfl (lv_at hl 1 rfl) ?_
    obtain ⟨r27, hf28, h⟩ := biS h
    refine ux_calli (va_runV (As := [.int x1]) (rest := []) ⟨hx, hb, hml, hown, hts⟩ (tX12_isTable l dC dI cy ad σ x1 H.size r27 hf28) (cwV 1 hts gX12_moves_X12_isTable rfl rfl rfl (by decide +kernel) ⟨Nat.le_of_ble_eq_true rfl, Nat.le_of_ble_eq_true rfl⟩) (wp_V hK hN hP hD (va_recv hK hP (ci := 12) (q0 := 0) rfl (wG_of (Nat.le_of_ble_eq_true rfl) rfl))) rfl rfl hl.1 rfl (lv_room (Nat.le_of_ble_eq_true rfl)) dX12_moves_2 ⟨Nat.le_of_ble_eq_true rfl, Nat.le_of_ble_eq_true rfl⟩) hD hS hA (fun H locs hP hD hS => ?_)
    refine lv_if_eq (tgt := 25) hx hb dX12_moves_5 (by decide) (fun hcd => ?_) (fun hcd => ?_)
    · have h := cdP hcd h
      refine lv_iconst (v := (-1)) hx hb dX12_moves_25 (by decide) ?_
      exact ux_iret hx hb hr h hP hD hS hlocks dX12_moves_26
    · have h := cdN hcd h
      refine lv_aload_n hx hb dX12_moves_8 rfl (lv_at hl 0 rfl) ?_
      refine lv_iload_n hx hb dX12_moves_9 rfl (lv_at hl 2 rfl) ?_
      obtain ⟨r29, hf30, h⟩ := biS h
      refine ux_calli (va_runV (As := [.int x2]) (rest := []) ⟨hx, hb, hml, hown, hts⟩ (tX12_isTable l dC dI cy ad σ x2 H.size r29 hf30) (cwV 1 hts gX12_moves_X12_isTable rfl rfl rfl (by decide +kernel) ⟨Nat.le_of_ble_eq_true rfl, Nat.le_of_ble_eq_true rfl⟩) (wp_V hK hN hP hD (va_recv hK hP (ci := 12) (q0 := 0) rfl (wG_of (Nat.le_of_ble_eq_true rfl) rfl))) rfl rfl hl.1 rfl (lv_room (Nat.le_of_ble_eq_true rfl)) dX12_moves_10 ⟨Nat.le_of_ble_eq_true rfl, Nat.le_of_ble_eq_true rfl⟩) hD hS hA (fun H locs hP hD hS => ?_)
      refine lv_if_eq (tgt := 25) hx hb dX12_moves_13 (by decide) (fun hcd => ?_) (fun hcd => ?_)
      · have h := cdP hcd h
        refine lv_iconst (v := (-1)) hx hb dX12_moves_25 (by decide) ?_
        exact ux_iret hx hb hr h hP hD hS hlocks dX12_moves_26
      · have h := cdN hcd h
        refine lv_iload_n hx hb dX12_moves_16 rfl (lv_at hl 3 rfl) ?_
        refine lv_iconst (v := 0) hx hb dX12_moves_17 (by decide) ?_
        refine lv_iconst (v := 1) hx hb dX12_moves_18 (by decide) ?_
        obtain ⟨r31, hf32, h⟩ := biS h
        refine ux_calli (va_runS (As := [.int x3, .int 0, .int 1]) (rest := []) ⟨hx, hb, hml, hown, hts⟩ (tX12_in l dC dI cy ad σ x3 0 1 H.size r31 hf32) (va_cwS 3 hts gX12_moves_X12_in rfl rfl rfl (by decide +kernel) ⟨Nat.le_of_ble_eq_true rfl, Nat.le_of_ble_eq_true rfl⟩) (wp_S hK hN hP hD) rfl rfl hl.1 rfl (lv_room (Nat.le_of_ble_eq_true rfl)) dX12_moves_19 ⟨Nat.le_of_ble_eq_true rfl, Nat.le_of_ble_eq_true rfl⟩) hD hS hA (fun H locs hP hD hS => ?_)
        refine lv_if_ne (tgt := 27) hx hb dX12_moves_22 (by decide) (fun hcd => ?_) (fun hcd => ?_)
        · have h := cdN hcd h
          refine lv_iconst (v := 0) hx hb dX12_moves_27 (by decide) ?_
          refine lv_istore (lv' := [(4, .int 0), (0, .ref (ad 0)), (1, .int x1), (2, .int x2), (3, .int x3)]) hx hb dX12_moves_28 hl (by decide) rfl (fun ls hl => ?_)
          have hl := lv_sub hl [1, 2, 3, 4, 0] (l' := [(0, .ref (ad 0)), (1, .int x1), (2, .int x2), (3, .int x3), (4, .int 0)]) rfl
          refine lv_iconst (v := 0) hx hb dX12_moves_30 (by decide) ?_
          refine lv_istore (lv' := [(5, .int 0), (0, .ref (ad 0)), (1, .int x1), (2, .int x2), (3, .int x3), (4, .int 0)]) hx hb dX12_moves_31 hl (by decide) rfl (fun ls hl => ?_)
          have hl := lv_sub hl [1, 2, 3, 4, 5, 0] (l' := [(0, .ref (ad 0)), (1, .int x1), (2, .int x2), (3, .int x3), (4, .int 0), (5, .int 0)]) rfl
          exact w33 FU σ x1 x2 x3 0 0 H locs ls h hP hD hS hl
        · have h := cdP hcd h
          refine lv_iconst (v := (-1)) hx hb dX12_moves_25 (by decide) ?_
          exact ux_iret hx hb hr h hP hD hS hlocks dX12_moves_26
  intro H locs ls h hP hD hS hl
  exact w0 σ a1 a2 a3 H locs ls h hP hD hS (lv_sub hl [0, 1, 2, 3] rfl)

set_option maxHeartbeats 4000000 in
set_option maxRecDepth 100000 in
theorem tX12_knows (l : Launch) (dC : Nat → ClassId) (dI : Nat → Nat → Nat) (cy : Nat → ClassId) (ad : Nat → Nat) (σ : S2) (a1 : Int32) (a2 : Int32) (sz : Nat) (r0 : Int32) (σ9 : S2) (h : fX12_knows σ a1 a2 = some (r0, σ9)) : Met l yX12_knows wsX12_knows ({ frames := 3, cells := 0, slots := 0, locals := 66 }) (va_Pc [.ref (ad 0), .int a1, .int a2] (wPre (dC, dI) cy (wG (cM cy ad) ad 40 σ) sz)) (va_Qi (fun (r : Int32) (_ : Unit) => r = r0) (fun (_ : Unit) t => wAt (dC, dI) (va_A (wG (cM cy ad) ad 40 σ) sz) (wG (cM cy ad) ad 40 σ9) t) (va_A (wG (cM cy ad) ad 40 σ) sz)) 0 0 (va_A (wG (cM cy ad) ad 40 σ) sz) := by
  refine Met.ofW (cc := cX12_knows) (maxL := 4) (ret := (some .int)) (by decide) rfl ?_
  intro p e s m args below meth c s₁ B hml hv
  obtain ⟨rfl, hsz, hP, hK, hD0, hN⟩ := hv
  have hx := B.exec
  have hb := B.bytes
  have hr := B.returns
  have hts := atoms_spec (ws := wsX12_knows) B.pre
  have hown : s.vm.findClass RX12 = some m.cls := findClass_of_methodNamed B.named
  have hlocks := B.notSynchronized
  subst hsz
  have hD := hD0.self (sz := s.heap.size)
  generalize hAe : va_A (wG (cM cy ad) ad 40 σ) s.heap.size = A at hD ⊢
  have hA : ∀ q : Nat, s.heap.size ≤ q → A q := fun q h => by rw [← hAe]; exact Or.inr h
  have hS : va_S A s.heap s.heap [] := va_S.rf
  have hl := lv_entry ([.ref (ad 0), .int a1, .int a2]) (n := 4) (Nat.le_of_ble_eq_true rfl)
  rw [lg_entry_eq]
  generalize (lg_sl ([.ref (ad 0), .int a1, .int a2]) ++ List.replicate (4 - (lg_sl ([.ref (ad 0), .int a1, .int a2])).length) Slot.unset).toArray = ls at hl ⊢
  have hl : lv_has ls 4 [(0, .ref (ad 0)), (1, .int a1), (2, .int a2)] := hl
  unfold fX12_knows at h
  clear hAe hD0
  suffices HH : ∀ (H : Heap) (locs : List Loc) (ls : Array Slot), fX12_knows_0 σ a1 a2 = some (r0, σ9) → va_P (dC, dI) vwCl (wG (cM cy ad) ad 40 σ) H → va_D A (wG (cM cy ad) ad 40 σ) → va_S A s.heap H locs → lv_has ls 4 [(0, .ref (ad 0)), (1, .int a1), (2, .int a2)] → W p l e (headSpec wsX12_knows ({ frames := 3, cells := 0, slots := 0, locals := 66 })).room s m (#[.ref (ad 0), .int a1, .int a2]) below meth c H locs 0 0 (MQ below (va_Qi (fun (r : Int32) (_ : Unit) => r = r0) (fun (_ : Unit) t => wAt (dC, dI) A (wG (cM cy ad) ad 40 σ9) t) A) (#[.ref (ad 0), .int a1, .int a2]) s 0 0 A) (F0 m 0 ls []) from HH s.heap [] ls h hP hD hS hl
  have w0 : ∀ (σ : S2) (x1 : Int32) (x2 : Int32) (H : Heap) (locs : List Loc) (ls : Array Slot), fX12_knows_0 σ x1 x2 = some (r0, σ9) → va_P (dC, dI) vwCl (wG (cM cy ad) ad 40 σ) H → va_D A (wG (cM cy ad) ad 40 σ) → va_S A s.heap H locs → lv_has ls 4 [(0, .ref (ad 0)), (1, .int x1), (2, .int x2)] → W p l e (headSpec wsX12_knows ({ frames := 3, cells := 0, slots := 0, locals := 66 })).room s m (#[.ref (ad 0), .int a1, .int a2]) below meth c H locs 0 0 (MQ below (va_Qi (fun (r : Int32) (_ : Unit) => r = r0) (fun (_ : Unit) t => wAt (dC, dI) A (wG (cM cy ad) ad 40 σ9) t) A) (#[.ref (ad 0), .int a1, .int a2]) s 0 0 A) (F0 m 0 ls []) := by
    intro σ x1 x2 H locs ls h hP hD hS hl
    unfold fX12_knows_0 at h
    refine lv_aload_n hx hb dX12_knows_0 rfl (lv_at hl 0 rfl) ?_
    refine lv_iload_n hx hb dX12_knows_1 rfl (lv_at hl 1 rfl) ?_
    obtain ⟨r1, hf2, h⟩ := biS h
    refine ux_calli (va_runV (As := [.int x1]) (rest := []) ⟨hx, hb, hml, hown, hts⟩ (tX12_isKeeper l dC dI cy ad σ x1 H.size r1 hf2) (cwV 1 hts gX12_knows_X12_isKeeper rfl rfl rfl (by decide +kernel) ⟨Nat.le_of_ble_eq_true rfl, Nat.le_of_ble_eq_true rfl⟩) (wp_V hK hN hP hD (va_recv hK hP (ci := 12) (q0 := 0) rfl (wG_of (Nat.le_of_ble_eq_true rfl) rfl))) rfl rfl hl.1 rfl (lv_room (Nat.le_of_ble_eq_true rfl)) dX12_knows_2 ⟨Nat.le_of_ble_eq_true rfl, Nat.le_of_ble_eq_true rfl⟩) hD hS hA (fun H locs hP hD hS => ?_)
    refine lv_if_eq (tgt := 22) hx hb dX12_knows_5 (by decide) (fun hcd => ?_) (fun hcd => ?_)
    · have h := cdP hcd h
      refine lv_ldc hx hb hown (hts (.constant RX12 169 (-2000000000)) (List.mem_of_getElem? (i := 2) rfl)) dX12_knows_22 ?_
      exact ux_iret hx hb hr h hP hD hS hlocks dX12_knows_24
    · have h := cdN hcd h
      refine lv_iload_n hx hb dX12_knows_8 rfl (lv_at hl 2 rfl) ?_
      refine lv_iconst (v := (-1)) hx hb dX12_knows_9 (by decide) ?_
      refine lv_aload_n hx hb dX12_knows_10 rfl (lv_at hl 0 rfl) ?_
      refine ux_get (D := (dC, dI)) (ci := 12) (v := .int (σ.1 0 9)) (C := RX12) (T := TX12) (M := 59) (fs := (oM ad (σ.1 0))) hx hb hts (fun _ h9 => List.mem_cons_of_mem _ (List.mem_append_right _ h9)) hown hK hP 0 (Nat.le_of_ble_eq_true rfl) rfl rfl 9 (by decide) (hts (.fieldLink RX12 143 "SeatsRoundModel" "tables" "I") (List.mem_of_getElem? (i := 1) rfl)) (fun _ h9 => h9) rfl dX12_knows_11 ?_
      refine lv_iconst (v := 1) hx hb dX12_knows_14 (by decide) ?_
      refine lv_isub hx hb dX12_knows_15 ?_
      obtain ⟨r3, hf4, h⟩ := biS h
      refine ux_calli (va_runS (As := [.int x2, .int (-1), .int ((σ.1 0 9) - 1)]) (rest := []) ⟨hx, hb, hml, hown, hts⟩ (tX12_in l dC dI cy ad σ x2 (-1) ((σ.1 0 9) - 1) H.size r3 hf4) (va_cwS 3 hts gX12_knows_X12_in rfl rfl rfl (by decide +kernel) ⟨Nat.le_of_ble_eq_true rfl, Nat.le_of_ble_eq_true rfl⟩) (wp_S hK hN hP hD) rfl rfl hl.1 rfl (lv_room (Nat.le_of_ble_eq_true rfl)) dX12_knows_16 ⟨Nat.le_of_ble_eq_true rfl, Nat.le_of_ble_eq_true rfl⟩) hD hS hA (fun H locs hP hD hS => ?_)
      refine lv_if_ne (tgt := 25) hx hb dX12_knows_19 (by decide) (fun hcd => ?_) (fun hcd => ?_)
      · have h := cdN hcd h
        refine lv_aload_n hx hb dX12_knows_25 rfl (lv_at hl 0 rfl) ?_
        refine ux_get (D := (dC, dI)) (ci := 12) (v := .ref (ad 6)) (C := RX12) (T := TX12) (M := 59) (fs := (oM ad (σ.1 0))) hx hb hts (fun _ h9 => List.mem_cons_of_mem _ (List.mem_append_right _ h9)) hown hK hP 0 (Nat.le_of_ble_eq_true rfl) rfl rfl 7 (by decide) (hts (.fieldLink RX12 25 "SeatsRoundModel" "known" "[I") (List.mem_of_getElem? (i := 3) rfl)) (fun _ h9 => h9) rfl dX12_knows_26 ?_
        refine lv_iload_n hx hb dX12_knows_29 rfl (lv_at hl 1 rfl) ?_
        refine ux_iald hx hb hK hP 6 0 (Nat.le_of_ble_eq_true rfl) (cM_6 _ _ _ _) rfl h dX12_knows_30 (fun v5 h => ?_)
        refine lv_istore_n (lv' := [(3, .int v5), (0, .ref (ad 0)), (1, .int x1), (2, .int x2)]) hx hb dX12_knows_31 rfl hl (by decide) rfl (fun ls hl => ?_)
        have hl := lv_sub hl [1, 2, 3, 0] (l' := [(0, .ref (ad 0)), (1, .int x1), (2, .int x2), (3, .int v5)]) rfl
        refine lv_aload_n hx hb dX12_knows_32 rfl (lv_at hl 0 rfl) ?_
        refine ux_get (D := (dC, dI)) (ci := 12) (v := .ref (ad 6)) (C := RX12) (T := TX12) (M := 59) (fs := (oM ad (σ.1 0))) hx hb hts (fun _ h9 => List.mem_cons_of_mem _ (List.mem_append_right _ h9)) hown hK hP 0 (Nat.le_of_ble_eq_true rfl) rfl rfl 7 (by decide) (hts (.fieldLink RX12 25 "SeatsRoundModel" "known" "[I") (List.mem_of_getElem? (i := 3) rfl)) (fun _ h9 => h9) rfl dX12_knows_33 ?_
        refine lv_iload_n hx hb dX12_knows_36 rfl (lv_at hl 1 rfl) ?_
        refine lv_iload_n hx hb dX12_knows_37 rfl (lv_at hl 2 rfl) ?_
        refine ux_iast hx hb hK hP hD hS 6 0 (Nat.le_of_ble_eq_true rfl) (fun _ => (cM_6 _ _ _ _)) rfl h dX12_knows_38 (fun σ6 H locs h hP hD hS => ?_)
        refine lv_iload_n hx hb dX12_knows_39 rfl (lv_at hl 3 rfl) ?_
        exact ux_iret hx hb hr h hP hD hS hlocks dX12_knows_40
      · have h := cdP hcd h
        refine lv_ldc hx hb hown (hts (.constant RX12 169 (-2000000000)) (List.mem_of_getElem? (i := 2) rfl)) dX12_knows_22 ?_
        exact ux_iret hx hb hr h hP hD hS hlocks dX12_knows_24
  intro H locs ls h hP hD hS hl
  exact w0 σ a1 a2 H locs ls h hP hD hS (lv_sub hl [0, 1, 2] rfl)

set_option maxHeartbeats 4000000 in
set_option maxRecDepth 100000 in
theorem tX12_isAwake (l : Launch) (dC : Nat → ClassId) (dI : Nat → Nat → Nat) (cy : Nat → ClassId) (ad : Nat → Nat) (σ : S2) (a1 : Int32) (sz : Nat) (r0 : Int32) (h : fX12_isAwake σ a1 = some r0) : Met l yX12_isAwake wsX12_isAwake ({ frames := 1, cells := 0, slots := 0, locals := 23 }) (va_Pc [.ref (ad 0), .int a1] (wPre (dC, dI) cy (wG (cM cy ad) ad 40 σ) sz)) (va_Qi (fun (r : Int32) (_ : Unit) => r = r0) (fun (_ : Unit) t => wAt (dC, dI) (va_A (wG (cM cy ad) ad 40 σ) sz) (wG (cM cy ad) ad 40 σ) t) (va_A (wG (cM cy ad) ad 40 σ) sz)) 0 0 (va_A (wG (cM cy ad) ad 40 σ) sz) := by
  refine Met.ofW (cc := cX12_isAwake) (maxL := 2) (ret := (some .boolean)) (by decide) rfl ?_
  intro p e s m args below meth c s₁ B hml hv
  obtain ⟨rfl, hsz, hP, hK, hD0, hN⟩ := hv
  have hx := B.exec
  have hb := B.bytes
  have hr := B.returns
  have hts := atoms_spec (ws := wsX12_isAwake) B.pre
  have hown : s.vm.findClass RX12 = some m.cls := findClass_of_methodNamed B.named
  have hlocks := B.notSynchronized
  subst hsz
  have hD := hD0.self (sz := s.heap.size)
  generalize hAe : va_A (wG (cM cy ad) ad 40 σ) s.heap.size = A at hD ⊢
  have hA : ∀ q : Nat, s.heap.size ≤ q → A q := fun q h => by rw [← hAe]; exact Or.inr h
  have hS : va_S A s.heap s.heap [] := va_S.rf
  have hl := lv_entry ([.ref (ad 0), .int a1]) (n := 2) (Nat.le_of_ble_eq_true rfl)
  rw [lg_entry_eq]
  generalize (lg_sl ([.ref (ad 0), .int a1]) ++ List.replicate (2 - (lg_sl ([.ref (ad 0), .int a1])).length) Slot.unset).toArray = ls at hl ⊢
  have hl : lv_has ls 2 [(0, .ref (ad 0)), (1, .int a1)] := hl
  unfold fX12_isAwake at h
  clear hAe hD0
  suffices HH : ∀ (H : Heap) (locs : List Loc) (ls : Array Slot), fX12_isAwake_0 σ a1 = some r0 → va_P (dC, dI) vwCl (wG (cM cy ad) ad 40 σ) H → va_D A (wG (cM cy ad) ad 40 σ) → va_S A s.heap H locs → lv_has ls 2 [(0, .ref (ad 0)), (1, .int a1)] → W p l e (headSpec wsX12_isAwake ({ frames := 1, cells := 0, slots := 0, locals := 23 })).room s m (#[.ref (ad 0), .int a1]) below meth c H locs 0 0 (MQ below (va_Qi (fun (r : Int32) (_ : Unit) => r = r0) (fun (_ : Unit) t => wAt (dC, dI) A (wG (cM cy ad) ad 40 σ) t) A) (#[.ref (ad 0), .int a1]) s 0 0 A) (F0 m 0 ls []) from HH s.heap [] ls h hP hD hS hl
  have w0 : ∀ (σ : S2) (x1 : Int32) (H : Heap) (locs : List Loc) (ls : Array Slot), fX12_isAwake_0 σ x1 = some r0 → va_P (dC, dI) vwCl (wG (cM cy ad) ad 40 σ) H → va_D A (wG (cM cy ad) ad 40 σ) → va_S A s.heap H locs → lv_has ls 2 [(0, .ref (ad 0)), (1, .int x1)] → W p l e (headSpec wsX12_isAwake ({ frames := 1, cells := 0, slots := 0, locals := 23 })).room s m (#[.ref (ad 0), .int a1]) below meth c H locs 0 0 (MQ below (va_Qi (fun (r : Int32) (_ : Unit) => r = r0) (fun (_ : Unit) t => wAt (dC, dI) A (wG (cM cy ad) ad 40 σ) t) A) (#[.ref (ad 0), .int a1]) s 0 0 A) (F0 m 0 ls []) := by
    intro σ x1 H locs ls h hP hD hS hl
    unfold fX12_isAwake_0 at h
    refine lv_aload_n hx hb dX12_isAwake_0 rfl (lv_at hl 0 rfl) ?_
    refine ux_get (D := (dC, dI)) (ci := 12) (v := .ref (ad 5)) (C := RX12) (T := TX12) (M := 59) (fs := (oM ad (σ.1 0))) hx hb hts (fun _ h9 => List.mem_cons_of_mem _ (List.mem_append_right _ h9)) hown hK hP 0 (Nat.le_of_ble_eq_true rfl) rfl rfl 6 (by decide) (hts (.fieldLink RX12 22 "SeatsRoundModel" "kind" "[I") (List.mem_of_getElem? (i := 1) rfl)) (fun _ h9 => h9) rfl dX12_isAwake_1 ?_
    refine lv_iload_n hx hb dX12_isAwake_4 rfl (lv_at hl 1 rfl) ?_
    refine ux_iald hx hb hK hP 5 0 (Nat.le_of_ble_eq_true rfl) (cM_5 _ _ _ _) rfl h dX12_isAwake_5 (fun v1 h => ?_)
    refine lv_iconst (v := 4) hx hb dX12_isAwake_6 (by decide) ?_
    refine lv_icmp_eq (tgt := 23) hx hb dX12_isAwake_7 (by decide) (fun hcd => ?_) (fun hcd => ?_)
    · have h := cdP hcd h
      refine lv_iconst (v := 0) hx hb dX12_isAwake_23 (by decide) ?_
      exact ux_zretP hx hb hr rfl h hP hD hS hlocks dX12_isAwake_24
    · have h := cdN hcd h
      refine lv_aload_n hx hb dX12_isAwake_10 rfl (lv_at hl 0 rfl) ?_
      refine ux_get (D := (dC, dI)) (ci := 12) (v := .ref (ad 7)) (C := RX12) (T := TX12) (M := 59) (fs := (oM ad (σ.1 0))) hx hb hts (fun _ h9 => List.mem_cons_of_mem _ (List.mem_append_right _ h9)) hown hK hP 0 (Nat.le_of_ble_eq_true rfl) rfl rfl 8 (by decide) (hts (.fieldLink RX12 28 "SeatsRoundModel" "isFallen" "[Z") (List.mem_of_getElem? (i := 2) rfl)) (fun _ h9 => h9) rfl dX12_isAwake_11 ?_
      refine lv_iload_n hx hb dX12_isAwake_14 rfl (lv_at hl 1 rfl) ?_
      refine ux_zald hx hb hK hP 7 2 (Nat.le_of_ble_eq_true rfl) (cM_7 _ _ _ _) rfl h dX12_isAwake_15 (fun v2 h => ?_)
      refine lv_if_ne (tgt := 23) hx hb dX12_isAwake_16 (by decide) (fun hcd => ?_) (fun hcd => ?_)
      · have h := cdN hcd h
        refine lv_iconst (v := 0) hx hb dX12_isAwake_23 (by decide) ?_
        exact ux_zretP hx hb hr rfl h hP hD hS hlocks dX12_isAwake_24
      · have h := cdP hcd h
        refine lv_iconst (v := 1) hx hb dX12_isAwake_19 (by decide) ?_
        refine lv_goto (tgt := 24) hx hb dX12_isAwake_20 (by decide) ?_
        exact ux_zretP hx hb hr rfl h hP hD hS hlocks dX12_isAwake_24
  intro H locs ls h hP hD hS hl
  exact w0 σ a1 H locs ls h hP hD hS (lv_sub hl [0, 1] rfl)

set_option maxHeartbeats 4000000 in
set_option maxRecDepth 100000 in
theorem tX12_hasRoom (l : Launch) (dC : Nat → ClassId) (dI : Nat → Nat → Nat) (cy : Nat → ClassId) (ad : Nat → Nat) (σ : S2) (a1 : Int32) (a2 : Int32) (sz : Nat) (r0 : Int32) (h : fX12_hasRoom σ a1 a2 = some r0) : Met l yX12_hasRoom wsX12_hasRoom ({ frames := 2, cells := 0, slots := 0, locals := 47 }) (va_Pc [.ref (ad 0), .int a1, .int a2] (wPre (dC, dI) cy (wG (cM cy ad) ad 40 σ) sz)) (va_Qi (fun (r : Int32) (_ : Unit) => r = r0) (fun (_ : Unit) t => wAt (dC, dI) (va_A (wG (cM cy ad) ad 40 σ) sz) (wG (cM cy ad) ad 40 σ) t) (va_A (wG (cM cy ad) ad 40 σ) sz)) 0 0 (va_A (wG (cM cy ad) ad 40 σ) sz) := by
  refine Met.ofW (cc := cX12_hasRoom) (maxL := 3) (ret := (some .boolean)) (by decide) rfl ?_
  intro p e s m args below meth c s₁ B hml hv
  obtain ⟨rfl, hsz, hP, hK, hD0, hN⟩ := hv
  have hx := B.exec
  have hb := B.bytes
  have hr := B.returns
  have hts := atoms_spec (ws := wsX12_hasRoom) B.pre
  have hown : s.vm.findClass RX12 = some m.cls := findClass_of_methodNamed B.named
  have hlocks := B.notSynchronized
  subst hsz
  have hD := hD0.self (sz := s.heap.size)
  generalize hAe : va_A (wG (cM cy ad) ad 40 σ) s.heap.size = A at hD ⊢
  have hA : ∀ q : Nat, s.heap.size ≤ q → A q := fun q h => by rw [← hAe]; exact Or.inr h
  have hS : va_S A s.heap s.heap [] := va_S.rf
  have hl := lv_entry ([.ref (ad 0), .int a1, .int a2]) (n := 3) (Nat.le_of_ble_eq_true rfl)
  rw [lg_entry_eq]
  generalize (lg_sl ([.ref (ad 0), .int a1, .int a2]) ++ List.replicate (3 - (lg_sl ([.ref (ad 0), .int a1, .int a2])).length) Slot.unset).toArray = ls at hl ⊢
  have hl : lv_has ls 3 [(0, .ref (ad 0)), (1, .int a1), (2, .int a2)] := hl
  unfold fX12_hasRoom at h
  clear hAe hD0
  suffices HH : ∀ (H : Heap) (locs : List Loc) (ls : Array Slot), fX12_hasRoom_0 σ a1 a2 = some r0 → va_P (dC, dI) vwCl (wG (cM cy ad) ad 40 σ) H → va_D A (wG (cM cy ad) ad 40 σ) → va_S A s.heap H locs → lv_has ls 3 [(0, .ref (ad 0)), (1, .int a1), (2, .int a2)] → W p l e (headSpec wsX12_hasRoom ({ frames := 2, cells := 0, slots := 0, locals := 47 })).room s m (#[.ref (ad 0), .int a1, .int a2]) below meth c H locs 0 0 (MQ below (va_Qi (fun (r : Int32) (_ : Unit) => r = r0) (fun (_ : Unit) t => wAt (dC, dI) A (wG (cM cy ad) ad 40 σ) t) A) (#[.ref (ad 0), .int a1, .int a2]) s 0 0 A) (F0 m 0 ls []) from HH s.heap [] ls h hP hD hS hl
  have w36 : ∀ (σ : S2)  (H : Heap) (locs : List Loc) (ls : Array Slot), fX12_hasRoom_36 σ = some r0 → va_P (dC, dI) vwCl (wG (cM cy ad) ad 40 σ) H → va_D A (wG (cM cy ad) ad 40 σ) → va_S A s.heap H locs → lv_has ls 3 [] → W p l e (headSpec wsX12_hasRoom ({ frames := 2, cells := 0, slots := 0, locals := 47 })).room s m (#[.ref (ad 0), .int a1, .int a2]) below meth c H locs 0 0 (MQ below (va_Qi (fun (r : Int32) (_ : Unit) => r = r0) (fun (_ : Unit) t => wAt (dC, dI) A (wG (cM cy ad) ad 40 σ) t) A) (#[.ref (ad 0), .int a1, .int a2]) s 0 0 A) (F0 m 36 ls []) := by
    intro σ H locs ls h hP hD hS hl
    unfold fX12_hasRoom_36 at h
    refine lv_iconst (v := 1) hx hb dX12_hasRoom_36 (by decide) ?_
    refine lv_goto (tgt := 41) hx hb dX12_hasRoom_37 (by decide) ?_
    exact ux_zretP hx hb hr rfl h hP hD hS hlocks dX12_hasRoom_41
  have w0 : ∀ (σ : S2) (x1 : Int32) (x2 : Int32) (H : Heap) (locs : List Loc) (ls : Array Slot), fX12_hasRoom_0 σ x1 x2 = some r0 → va_P (dC, dI) vwCl (wG (cM cy ad) ad 40 σ) H → va_D A (wG (cM cy ad) ad 40 σ) → va_S A s.heap H locs → lv_has ls 3 [(0, .ref (ad 0)), (1, .int x1), (2, .int x2)] → W p l e (headSpec wsX12_hasRoom ({ frames := 2, cells := 0, slots := 0, locals := 47 })).room s m (#[.ref (ad 0), .int a1, .int a2]) below meth c H locs 0 0 (MQ below (va_Qi (fun (r : Int32) (_ : Unit) => r = r0) (fun (_ : Unit) t => wAt (dC, dI) A (wG (cM cy ad) ad 40 σ) t) A) (#[.ref (ad 0), .int a1, .int a2]) s 0 0 A) (F0 m 0 ls []) := by
    intro σ x1 x2 H locs ls h hP hD hS hl
    unfold fX12_hasRoom_0 at h
    refine lv_aload_n hx hb dX12_hasRoom_0 rfl (lv_at hl 0 rfl) ?_
    refine ux_get (D := (dC, dI)) (ci := 12) (v := .ref (ad 5)) (C := RX12) (T := TX12) (M := 59) (fs := (oM ad (σ.1 0))) hx hb hts (fun _ h9 => List.mem_cons_of_mem _ (List.mem_append_right _ h9)) hown hK hP 0 (Nat.le_of_ble_eq_true rfl) rfl rfl 6 (by decide) (hts (.fieldLink RX12 22 "SeatsRoundModel" "kind" "[I") (List.mem_of_getElem? (i := 1) rfl)) (fun _ h9 => h9) rfl dX12_hasRoom_1 ?_
    refine lv_iload_n hx hb dX12_hasRoom_4 rfl (lv_at hl 1 rfl) ?_
    refine ux_iald hx hb hK hP 5 0 (Nat.le_of_ble_eq_true rfl) (cM_5 _ _ _ _) rfl h dX12_hasRoom_5 (fun v1 h => ?_)
    refine lv_bipush (v := 6) hx hb dX12_hasRoom_6 (by decide) ?_
    refine lv_icmp_ne (tgt := 36) hx hb dX12_hasRoom_8 (by decide) (fun hcd => ?_) (fun hcd => ?_)
    · have h := cdN hcd h
      exact w36 σ H locs ls h hP hD hS (lv_sub hl [] rfl)
    · have h := cdP hcd h
      refine lv_aload_n hx hb dX12_hasRoom_11 rfl (lv_at hl 0 rfl) ?_
      refine ux_get (D := (dC, dI)) (ci := 12) (v := .ref (ad 20)) (C := RX12) (T := TX12) (M := 59) (fs := (oM ad (σ.1 0))) hx hb hts (fun _ h9 => List.mem_cons_of_mem _ (List.mem_append_right _ h9)) hown hK hP 0 (Nat.le_of_ble_eq_true rfl) rfl rfl 23 (by decide) (hts (.fieldLink RX12 68 "SeatsRoundModel" "version" "[I") (List.mem_of_getElem? (i := 2) rfl)) (fun _ h9 => h9) rfl dX12_hasRoom_12 ?_
      refine lv_bipush (v := 40) hx hb dX12_hasRoom_15 (by decide) ?_
      refine lv_iload_n hx hb dX12_hasRoom_17 rfl (lv_at hl 1 rfl) ?_
      refine lv_imul hx hb dX12_hasRoom_18 ?_
      refine lv_iload_n hx hb dX12_hasRoom_19 rfl (lv_at hl 2 rfl) ?_
      refine lv_iadd hx hb dX12_hasRoom_20 ?_
      refine ux_iald hx hb hK hP 20 0 (Nat.le_of_ble_eq_true rfl) (cM_20 _ _ _ _) rfl h dX12_hasRoom_21 (fun v2 h => ?_)
      change W _ _ _ _ _ _ _ _ _ _ _ _ _ _ _ (F0 m 22 ls [.int v2])
      refine lv_if_gt (tgt := 36) hx hb dX12_hasRoom_22 (by decide) (fun hcd => ?_) (fun hcd => ?_)
      · have h := cdP hcd h
        exact w36 σ H locs ls h hP hD hS (lv_sub hl [] rfl)
      · have h := cdN hcd h
        refine lv_aload_n hx hb dX12_hasRoom_25 rfl (lv_at hl 0 rfl) ?_
        refine lv_iload_n hx hb dX12_hasRoom_26 rfl (lv_at hl 1 rfl) ?_
        refine lv_iconst (v := 1) hx hb dX12_hasRoom_27 (by decide) ?_
        obtain ⟨r3, hf4, h⟩ := biS h
        refine ux_calli (va_runV (As := [.int x1, .int 1]) (rest := []) ⟨hx, hb, hml, hown, hts⟩ (tX12_many l dC dI cy ad σ x1 1 H.size r3 hf4) (cwV 2 hts gX12_hasRoom_X12_many rfl rfl rfl (by decide +kernel) ⟨Nat.le_of_ble_eq_true rfl, Nat.le_of_ble_eq_true rfl⟩) (wp_V hK hN hP hD (va_recv hK hP (ci := 12) (q0 := 0) rfl (wG_of (Nat.le_of_ble_eq_true rfl) rfl))) rfl rfl hl.1 rfl (lv_room (Nat.le_of_ble_eq_true rfl)) dX12_hasRoom_28 ⟨Nat.le_of_ble_eq_true rfl, Nat.le_of_ble_eq_true rfl⟩) hD hS hA (fun H locs hP hD hS => ?_)
        refine lv_bipush (v := 8) hx hb dX12_hasRoom_31 (by decide) ?_
        refine lv_icmp_ge (tgt := 40) hx hb dX12_hasRoom_33 (by decide) (fun hcd => ?_) (fun hcd => ?_)
        · have h := cdP hcd h
          refine lv_iconst (v := 0) hx hb dX12_hasRoom_40 (by decide) ?_
          exact ux_zretP hx hb hr rfl h hP hD hS hlocks dX12_hasRoom_41
        · have h := cdN hcd h
          exact w36 σ H locs ls h hP hD hS (lv_sub hl [] rfl)
  intro H locs ls h hP hD hS hl
  exact w0 σ a1 a2 H locs ls h hP hD hS (lv_sub hl [0, 1, 2] rfl)

set_option maxHeartbeats 4000000 in
set_option maxRecDepth 100000 in
theorem tX12_keeps (l : Launch) (dC : Nat → ClassId) (dI : Nat → Nat → Nat) (cy : Nat → ClassId) (ad : Nat → Nat) (σ : S2) (a1 : Int32) (a2 : Int32) (a3 : Int32) (a4 : Int32) (sz : Nat) (r0 : Int32) (σ9 : S2) (h : fX12_keeps σ a1 a2 a3 a4 = some (r0, σ9)) : Met l yX12_keeps wsX12_keeps ({ frames := 2, cells := 0, slots := 0, locals := 44 }) (va_Pc [.ref (ad 0), .int a1, .int a2, .int a3, .int a4] (wPre (dC, dI) cy (wG (cM cy ad) ad 40 σ) sz)) (va_Qi (fun (r : Int32) (_ : Unit) => r = r0) (fun (_ : Unit) t => wAt (dC, dI) (va_A (wG (cM cy ad) ad 40 σ) sz) (wG (cM cy ad) ad 40 σ9) t) (va_A (wG (cM cy ad) ad 40 σ) sz)) 0 0 (va_A (wG (cM cy ad) ad 40 σ) sz) := by
  refine Met.ofW (cc := cX12_keeps) (maxL := 8) (ret := (some .int)) (by decide) rfl ?_
  intro p e s m args below meth c s₁ B hml hv
  obtain ⟨rfl, hsz, hP, hK, hD0, hN⟩ := hv
  have hx := B.exec
  have hb := B.bytes
  have hr := B.returns
  have hts := atoms_spec (ws := wsX12_keeps) B.pre
  have hown : s.vm.findClass RX12 = some m.cls := findClass_of_methodNamed B.named
  have hlocks := B.notSynchronized
  subst hsz
  have hD := hD0.self (sz := s.heap.size)
  generalize hAe : va_A (wG (cM cy ad) ad 40 σ) s.heap.size = A at hD ⊢
  have hA : ∀ q : Nat, s.heap.size ≤ q → A q := fun q h => by rw [← hAe]; exact Or.inr h
  have hS : va_S A s.heap s.heap [] := va_S.rf
  have hl := lv_entry ([.ref (ad 0), .int a1, .int a2, .int a3, .int a4]) (n := 8) (Nat.le_of_ble_eq_true rfl)
  rw [lg_entry_eq]
  generalize (lg_sl ([.ref (ad 0), .int a1, .int a2, .int a3, .int a4]) ++ List.replicate (8 - (lg_sl ([.ref (ad 0), .int a1, .int a2, .int a3, .int a4])).length) Slot.unset).toArray = ls at hl ⊢
  have hl : lv_has ls 8 [(0, .ref (ad 0)), (1, .int a1), (2, .int a2), (3, .int a3), (4, .int a4)] := hl
  unfold fX12_keeps at h
  clear hAe hD0
  suffices HH : ∀ (H : Heap) (locs : List Loc) (ls : Array Slot), fX12_keeps_0 σ a1 a2 a3 a4 = some (r0, σ9) → va_P (dC, dI) vwCl (wG (cM cy ad) ad 40 σ) H → va_D A (wG (cM cy ad) ad 40 σ) → va_S A s.heap H locs → lv_has ls 8 [(0, .ref (ad 0)), (1, .int a1), (2, .int a2), (3, .int a3), (4, .int a4)] → W p l e (headSpec wsX12_keeps ({ frames := 2, cells := 0, slots := 0, locals := 44 })).room s m (#[.ref (ad 0), .int a1, .int a2, .int a3, .int a4]) below meth c H locs 0 0 (MQ below (va_Qi (fun (r : Int32) (_ : Unit) => r = r0) (fun (_ : Unit) t => wAt (dC, dI) A (wG (cM cy ad) ad 40 σ9) t) A) (#[.ref (ad 0), .int a1, .int a2, .int a3, .int a4]) s 0 0 A) (F0 m 0 ls []) from HH s.heap [] ls h hP hD hS hl
  have w90 : ∀ (k3 : S2 → Int32 → Int32 → Int32 → Int32 → Int32 → Option (Int32 × S2)) (hk3 : ∀ (σ : S2) (x1 : Int32) (x2 : Int32) (x3 : Int32) (x4 : Int32) (x5 : Int32) (H : Heap) (locs : List Loc) (ls : Array Slot), k3 σ x1 x2 x3 x4 x5 = some (r0, σ9) → va_P (dC, dI) vwCl (wG (cM cy ad) ad 40 σ) H → va_D A (wG (cM cy ad) ad 40 σ) → va_S A s.heap H locs → lv_has ls 8 [(0, .ref (ad 0)), (1, .int x1), (2, .int x2), (3, .int x3), (4, .int x4), (5, .int x5)] → W p l e (headSpec wsX12_keeps ({ frames := 2, cells := 0, slots := 0, locals := 44 })).room s m (#[.ref (ad 0), .int a1, .int a2, .int a3, .int a4]) below meth c H locs 0 0 (MQ below (va_Qi (fun (r : Int32) (_ : Unit) => r = r0) (fun (_ : Unit) t => wAt (dC, dI) A (wG (cM cy ad) ad 40 σ9) t) A) (#[.ref (ad 0), .int a1, .int a2, .int a3, .int a4]) s 0 0 A) (F0 m 3 ls [])) , ∀ (σ : S2) (x1 : Int32) (x2 : Int32) (x3 : Int32) (x4 : Int32) (x5 : Int32) (H : Heap) (locs : List Loc) (ls : Array Slot), fX12_keeps_90 k3 σ x1 x2 x3 x4 x5 = some (r0, σ9) → va_P (dC, dI) vwCl (wG (cM cy ad) ad 40 σ) H → va_D A (wG (cM cy ad) ad 40 σ) → va_S A s.heap H locs → lv_has ls 8 [(0, .ref (ad 0)), (1, .int x1), (2, .int x2), (3, .int x3), (4, .int x4), (5, .int x5)] → W p l e (headSpec wsX12_keeps ({ frames := 2, cells := 0, slots := 0, locals := 44 })).room s m (#[.ref (ad 0), .int a1, .int a2, .int a3, .int a4]) below meth c H locs 0 0 (MQ below (va_Qi (fun (r : Int32) (_ : Unit) => r = r0) (fun (_ : Unit) t => wAt (dC, dI) A (wG (cM cy ad) ad 40 σ9) t) A) (#[.ref (ad 0), .int a1, .int a2, .int a3, .int a4]) s 0 0 A) (F0 m 90 ls []) := by
    intro k3 hk3 σ x1 x2 x3 x4 x5 H locs ls h hP hD hS hl
    unfold fX12_keeps_90 at h
    obtain ⟨v1, ev1⟩ : ∃ y : Int32, y = x5 + 1 := ⟨_, rfl⟩
    have h := nmS h ev1
    refine lv_iinc (v := v1) (lv' := [(5, .int v1), (0, .ref (ad 0)), (1, .int x1), (2, .int x2), (3, .int x3), (4, .int x4)]) hx hb dX12_keeps_90 hl (k := 5) rfl (by rw [ev1]; rfl) (by decide) rfl (fun ls hl => ?_)
    have hl := lv_sub hl [1, 2, 3, 4, 5, 0] (l' := [(0, .ref (ad 0)), (1, .int x1), (2, .int x2), (3, .int x3), (4, .int x4), (5, .int v1)]) rfl
    refine lv_goto (tgt := 3) hx hb dX12_keeps_93 (by decide) ?_
    exact hk3 σ x1 x2 x3 x4 v1 H locs ls h hP hD hS hl
  have w71 : ∀ (σ : S2) (x2 : Int32) (x4 : Int32) (x7 : Int32) (H : Heap) (locs : List Loc) (ls : Array Slot), fX12_keeps_71 σ x2 x4 x7 = some (r0, σ9) → va_P (dC, dI) vwCl (wG (cM cy ad) ad 40 σ) H → va_D A (wG (cM cy ad) ad 40 σ) → va_S A s.heap H locs → lv_has ls 8 [(0, .ref (ad 0)), (2, .int x2), (4, .int x4), (7, .int x7)] → W p l e (headSpec wsX12_keeps ({ frames := 2, cells := 0, slots := 0, locals := 44 })).room s m (#[.ref (ad 0), .int a1, .int a2, .int a3, .int a4]) below meth c H locs 0 0 (MQ below (va_Qi (fun (r : Int32) (_ : Unit) => r = r0) (fun (_ : Unit) t => wAt (dC, dI) A (wG (cM cy ad) ad 40 σ9) t) A) (#[.ref (ad 0), .int a1, .int a2, .int a3, .int a4]) s 0 0 A) (F0 m 71 ls []) := by
    intro σ x2 x4 x7 H locs ls h hP hD hS hl
    unfold fX12_keeps_71 at h
    refine lv_aload_n hx hb dX12_keeps_71 rfl (lv_at hl 0 rfl) ?_
    refine ux_get (D := (dC, dI)) (ci := 12) (v := .ref (ad 21)) (C := RX12) (T := TX12) (M := 59) (fs := (oM ad (σ.1 0))) hx hb hts (fun _ h9 => List.mem_cons_of_mem _ (List.mem_append_right _ h9)) hown hK hP 0 (Nat.le_of_ble_eq_true rfl) rfl rfl 24 (by decide) (hts (.fieldLink RX12 71 "SeatsRoundModel" "kept" "[I") (List.mem_of_getElem? (i := 4) rfl)) (fun _ h9 => h9) rfl dX12_keeps_72 ?_
    refine lv_iload hx hb dX12_keeps_75 (lv_at hl 3 rfl) ?_
    refine lv_iload hx hb dX12_keeps_77 (lv_at hl 2 rfl) ?_
    refine ux_iast hx hb hK hP hD hS 21 0 (Nat.le_of_ble_eq_true rfl) (fun _ => (cM_21 _ _ _ _)) rfl h dX12_keeps_79 (fun σ2 H locs h hP hD hS => ?_)
    refine lv_aload_n hx hb dX12_keeps_80 rfl (lv_at hl 0 rfl) ?_
    refine ux_get (D := (dC, dI)) (ci := 12) (v := .ref (ad 22)) (C := RX12) (T := TX12) (M := 59) (fs := (oM ad (σ2.1 0))) hx hb hts (fun _ h9 => List.mem_cons_of_mem _ (List.mem_append_right _ h9)) hown hK hP 0 (Nat.le_of_ble_eq_true rfl) rfl rfl 25 (by decide) (hts (.fieldLink RX12 74 "SeatsRoundModel" "keptFor" "[I") (List.mem_of_getElem? (i := 3) rfl)) (fun _ h9 => h9) rfl dX12_keeps_81 ?_
    refine lv_iload hx hb dX12_keeps_84 (lv_at hl 3 rfl) ?_
    refine lv_iload_n hx hb dX12_keeps_86 rfl (lv_at hl 1 rfl) ?_
    refine ux_iast hx hb hK hP hD hS 22 0 (Nat.le_of_ble_eq_true rfl) (fun _ => (cM_22 _ _ _ _)) rfl h dX12_keeps_87 (fun σ3 H locs h hP hD hS => ?_)
    refine lv_iconst (v := 1) hx hb dX12_keeps_88 (by decide) ?_
    exact ux_iret hx hb hr h hP hD hS hlocks dX12_keeps_89
  have w3 : ∀ (n : Nat), ∀ (σ : S2) (x1 : Int32) (x2 : Int32) (x3 : Int32) (x4 : Int32) (x5 : Int32) (H : Heap) (locs : List Loc) (ls : Array Slot), fX12_keeps_3 n σ x1 x2 x3 x4 x5 = some (r0, σ9) → va_P (dC, dI) vwCl (wG (cM cy ad) ad 40 σ) H → va_D A (wG (cM cy ad) ad 40 σ) → va_S A s.heap H locs → lv_has ls 8 [(0, .ref (ad 0)), (1, .int x1), (2, .int x2), (3, .int x3), (4, .int x4), (5, .int x5)] → W p l e (headSpec wsX12_keeps ({ frames := 2, cells := 0, slots := 0, locals := 44 })).room s m (#[.ref (ad 0), .int a1, .int a2, .int a3, .int a4]) below meth c H locs 0 0 (MQ below (va_Qi (fun (r : Int32) (_ : Unit) => r = r0) (fun (_ : Unit) t => wAt (dC, dI) A (wG (cM cy ad) ad 40 σ9) t) A) (#[.ref (ad 0), .int a1, .int a2, .int a3, .int a4]) s 0 0 A) (F0 m 3 ls []) := by
    intro n
    induction n with
    | zero => intro σ x1 x2 x3 x4 x5 H locs ls h; cases h
    | succ n ih =>
    intro σ x1 x2 x3 x4 x5 H locs ls h hP hD hS hl
    unfold fX12_keeps_3 at h
    refine lv_iload hx hb dX12_keeps_3 (lv_at hl 5 rfl) ?_
    refine lv_aload_n hx hb dX12_keeps_5 rfl (lv_at hl 0 rfl) ?_
    refine ux_get (D := (dC, dI)) (ci := 12) (v := .int (σ.1 0 53)) (C := RX12) (T := TX12) (M := 59) (fs := (oM ad (σ.1 0))) hx hb hts (fun _ h9 => List.mem_cons_of_mem _ (List.mem_append_right _ h9)) hown hK hP 0 (Nat.le_of_ble_eq_true rfl) rfl rfl 53 (by decide) (hts (.fieldLink RX12 240 "SeatsRoundModel" "pickedMany" "I") (List.mem_of_getElem? (i := 1) rfl)) (fun _ h9 => h9) rfl dX12_keeps_6 ?_
    refine lv_icmp_ge (tgt := 96) hx hb dX12_keeps_9 (by decide) (fun hcd => ?_) (fun hcd => ?_)
    · have h := cdP hcd h
      refine lv_iconst (v := 0) hx hb dX12_keeps_96 (by decide) ?_
      exact ux_iret hx hb hr h hP hD hS hlocks dX12_keeps_97
    · have h := cdN hcd h
      refine lv_aload_n hx hb dX12_keeps_12 rfl (lv_at hl 0 rfl) ?_
      refine ux_get (D := (dC, dI)) (ci := 12) (v := .ref (ad 35)) (C := RX12) (T := TX12) (M := 59) (fs := (oM ad (σ.1 0))) hx hb hts (fun _ h9 => List.mem_cons_of_mem _ (List.mem_append_right _ h9)) hown hK hP 0 (Nat.le_of_ble_eq_true rfl) rfl rfl 52 (by decide) (hts (.fieldLink RX12 118 "SeatsRoundModel" "picked" "[I") (List.mem_of_getElem? (i := 2) rfl)) (fun _ h9 => h9) rfl dX12_keeps_13 ?_
      refine lv_iload hx hb dX12_keeps_16 (lv_at hl 5 rfl) ?_
      refine ux_iald hx hb hK hP 35 0 (Nat.le_of_ble_eq_true rfl) (cM_35 _ _ _ _) rfl h dX12_keeps_18 (fun v4 h => ?_)
      refine lv_istore (lv' := [(6, .int v4), (0, .ref (ad 0)), (1, .int x1), (2, .int x2), (3, .int x3), (4, .int x4), (5, .int x5)]) hx hb dX12_keeps_19 hl (by decide) rfl (fun ls hl => ?_)
      have hl := lv_sub hl [1, 2, 3, 4, 5, 6, 0] (l' := [(0, .ref (ad 0)), (1, .int x1), (2, .int x2), (3, .int x3), (4, .int x4), (5, .int x5), (6, .int v4)]) rfl
      refine lv_bipush (v := 40) hx hb dX12_keeps_21 (by decide) ?_
      refine lv_iload hx hb dX12_keeps_23 (lv_at hl 6 rfl) ?_
      refine lv_imul hx hb dX12_keeps_25 ?_
      refine lv_iload_n hx hb dX12_keeps_26 rfl (lv_at hl 1 rfl) ?_
      refine lv_iadd hx hb dX12_keeps_27 ?_
      refine lv_topi (fun v5 ev5 => ?_)
      have h := nmS h ev5
      refine lv_istore (lv' := [(7, .int v5), (0, .ref (ad 0)), (1, .int x1), (2, .int x2), (3, .int x3), (4, .int x4), (5, .int x5), (6, .int v4)]) hx hb dX12_keeps_28 hl (by decide) rfl (fun ls hl => ?_)
      have hl := lv_sub hl [1, 2, 3, 4, 5, 6, 7, 0] (l' := [(0, .ref (ad 0)), (1, .int x1), (2, .int x2), (3, .int x3), (4, .int x4), (5, .int x5), (6, .int v4), (7, .int v5)]) rfl
      refine lv_iload_n hx hb dX12_keeps_30 rfl (lv_at hl 3 rfl) ?_
      refine lv_iload hx hb dX12_keeps_31 (lv_at hl 6 rfl) ?_
      refine lv_ishr hx hb dX12_keeps_33 ?_
      refine lv_iconst (v := 1) hx hb dX12_keeps_34 (by decide) ?_
      refine lv_iand hx hb dX12_keeps_35 ?_
      refine lv_if_ne (tgt := 90) hx hb dX12_keeps_36 (by decide) (fun hcd => ?_) (fun hcd => ?_)
      · have h := cdN hcd h
        exact w90 _ ih σ x1 x2 x3 x4 x5 H locs ls h hP hD hS (lv_sub hl [0, 1, 2, 3, 4, 5] rfl)
      · have h := cdP hcd h
        refine lv_aload_n hx hb dX12_keeps_39 rfl (lv_at hl 0 rfl) ?_
        refine lv_iload hx hb dX12_keeps_40 (lv_at hl 6 rfl) ?_
        obtain ⟨r6, hf7, h⟩ := biS h
        refine ux_calli (va_runV (As := [.int v4]) (rest := []) ⟨hx, hb, hml, hown, hts⟩ (tX12_isAwake l dC dI cy ad σ v4 H.size r6 hf7) (cwV 1 hts gX12_keeps_X12_isAwake rfl rfl rfl (by decide +kernel) ⟨Nat.le_of_ble_eq_true rfl, Nat.le_of_ble_eq_true rfl⟩) (wp_V hK hN hP hD (va_recv hK hP (ci := 12) (q0 := 0) rfl (wG_of (Nat.le_of_ble_eq_true rfl) rfl))) rfl rfl hl.1 rfl (lv_room (Nat.le_of_ble_eq_true rfl)) dX12_keeps_42 ⟨Nat.le_of_ble_eq_true rfl, Nat.le_of_ble_eq_true rfl⟩) hD hS hA (fun H locs hP hD hS => ?_)
        refine lv_if_eq (tgt := 90) hx hb dX12_keeps_45 (by decide) (fun hcd => ?_) (fun hcd => ?_)
        · have h := cdP hcd h
          exact w90 _ ih σ x1 x2 x3 x4 x5 H locs ls h hP hD hS (lv_sub hl [0, 1, 2, 3, 4, 5] rfl)
        · have h := cdN hcd h
          refine lv_aload_n hx hb dX12_keeps_48 rfl (lv_at hl 0 rfl) ?_
          refine ux_get (D := (dC, dI)) (ci := 12) (v := .ref (ad 22)) (C := RX12) (T := TX12) (M := 59) (fs := (oM ad (σ.1 0))) hx hb hts (fun _ h9 => List.mem_cons_of_mem _ (List.mem_append_right _ h9)) hown hK hP 0 (Nat.le_of_ble_eq_true rfl) rfl rfl 25 (by decide) (hts (.fieldLink RX12 74 "SeatsRoundModel" "keptFor" "[I") (List.mem_of_getElem? (i := 3) rfl)) (fun _ h9 => h9) rfl dX12_keeps_49 ?_
          refine lv_iload hx hb dX12_keeps_52 (lv_at hl 7 rfl) ?_
          refine ux_iald hx hb hK hP 22 0 (Nat.le_of_ble_eq_true rfl) (cM_22 _ _ _ _) rfl h dX12_keeps_54 (fun v8 h => ?_)
          refine lv_bipush (v := (-2)) hx hb dX12_keeps_55 (by decide) ?_
          refine lv_icmp_eq (tgt := 71) hx hb dX12_keeps_57 (by decide) (fun hcd => ?_) (fun hcd => ?_)
          · have h := cdP hcd h
            exact w71 σ x2 x4 v5 H locs ls h hP hD hS (lv_sub hl [0, 2, 4, 7] rfl)
          · have h := cdN hcd h
            refine lv_aload_n hx hb dX12_keeps_60 rfl (lv_at hl 0 rfl) ?_
            refine ux_get (D := (dC, dI)) (ci := 12) (v := .ref (ad 22)) (C := RX12) (T := TX12) (M := 59) (fs := (oM ad (σ.1 0))) hx hb hts (fun _ h9 => List.mem_cons_of_mem _ (List.mem_append_right _ h9)) hown hK hP 0 (Nat.le_of_ble_eq_true rfl) rfl rfl 25 (by decide) (hts (.fieldLink RX12 74 "SeatsRoundModel" "keptFor" "[I") (List.mem_of_getElem? (i := 3) rfl)) (fun _ h9 => h9) rfl dX12_keeps_61 ?_
            refine lv_iload hx hb dX12_keeps_64 (lv_at hl 7 rfl) ?_
            refine ux_iald hx hb hK hP 22 0 (Nat.le_of_ble_eq_true rfl) (cM_22 _ _ _ _) rfl h dX12_keeps_66 (fun v9 h => ?_)
            refine lv_iload_n hx hb dX12_keeps_67 rfl (lv_at hl 2 rfl) ?_
            refine lv_icmp_ne (tgt := 90) hx hb dX12_keeps_68 (by decide) (fun hcd => ?_) (fun hcd => ?_)
            · have h := cdN hcd h
              exact w90 _ ih σ x1 x2 x3 x4 x5 H locs ls h hP hD hS (lv_sub hl [0, 1, 2, 3, 4, 5] rfl)
            · have h := cdP hcd h
              exact w71 σ x2 x4 v5 H locs ls h hP hD hS (lv_sub hl [0, 2, 4, 7] rfl)
  have w0 : ∀ (σ : S2) (x1 : Int32) (x2 : Int32) (x3 : Int32) (x4 : Int32) (H : Heap) (locs : List Loc) (ls : Array Slot), fX12_keeps_0 σ x1 x2 x3 x4 = some (r0, σ9) → va_P (dC, dI) vwCl (wG (cM cy ad) ad 40 σ) H → va_D A (wG (cM cy ad) ad 40 σ) → va_S A s.heap H locs → lv_has ls 8 [(0, .ref (ad 0)), (1, .int x1), (2, .int x2), (3, .int x3), (4, .int x4)] → W p l e (headSpec wsX12_keeps ({ frames := 2, cells := 0, slots := 0, locals := 44 })).room s m (#[.ref (ad 0), .int a1, .int a2, .int a3, .int a4]) below meth c H locs 0 0 (MQ below (va_Qi (fun (r : Int32) (_ : Unit) => r = r0) (fun (_ : Unit) t => wAt (dC, dI) A (wG (cM cy ad) ad 40 σ9) t) A) (#[.ref (ad 0), .int a1, .int a2, .int a3, .int a4]) s 0 0 A) (F0 m 0 ls []) := by
    intro σ x1 x2 x3 x4 H locs ls h hP hD hS hl
    unfold fX12_keeps_0 at h
    refine lv_iconst (v := 0) hx hb dX12_keeps_0 (by decide) ?_
    refine lv_istore (lv' := [(5, .int 0), (0, .ref (ad 0)), (1, .int x1), (2, .int x2), (3, .int x3), (4, .int x4)]) hx hb dX12_keeps_1 hl (by decide) rfl (fun ls hl => ?_)
    have hl := lv_sub hl [1, 2, 3, 4, 5, 0] (l' := [(0, .ref (ad 0)), (1, .int x1), (2, .int x2), (3, .int x3), (4, .int x4), (5, .int 0)]) rfl
    exact w3 FU σ x1 x2 x3 x4 0 H locs ls h hP hD hS hl
  intro H locs ls h hP hD hS hl
  exact w0 σ a1 a2 a3 a4 H locs ls h hP hD hS (lv_sub hl [0, 1, 2, 3, 4] rfl)

