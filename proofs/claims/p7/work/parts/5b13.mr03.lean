set_option maxHeartbeats 4000000 in
set_option maxRecDepth 100000 in
theorem tX12_harm (l : Launch) (dC : Nat → ClassId) (dI : Nat → Nat → Nat) (cy : Nat → ClassId) (ad : Nat → Nat) (σ : S2) (a1 : Int32) (sz : Nat) (r0 : Int32) (σ9 : S2) (h : fX12_harm σ a1 = some (r0, σ9)) : Met l yX12_harm wsX12_harm ({ frames := 30, cells := 0, slots := 0, locals := 689 }) (va_Pc [.ref (ad 0), .int a1] (wPre (dC, dI) cy (wG (cM cy ad) ad 40 σ) sz)) (va_Qi (fun (r : Int32) (_ : Unit) => r = r0) (fun (_ : Unit) t => wAt (dC, dI) (va_A (wG (cM cy ad) ad 40 σ) sz) (wG (cM cy ad) ad 40 σ9) t) (va_A (wG (cM cy ad) ad 40 σ) sz)) 0 0 (va_A (wG (cM cy ad) ad 40 σ) sz) := by
  refine Met.ofW (cc := cX12_harm) (maxL := 7) (ret := (some .int)) (by decide) rfl ?_
  intro p e s m args below meth c s₁ B hml hv
  obtain ⟨rfl, hsz, hP, hK, hD0, hN⟩ := hv
  have hx := B.exec
  have hb := B.bytes
  have hr := B.returns
  have hts := atoms_spec (ws := wsX12_harm) B.pre
  have hown : s.vm.findClass RX12 = some m.cls := findClass_of_methodNamed B.named
  have hlocks := B.notSynchronized
  subst hsz
  have hD := hD0.self (sz := s.heap.size)
  generalize hAe : va_A (wG (cM cy ad) ad 40 σ) s.heap.size = A at hD ⊢
  have hA : ∀ q : Nat, s.heap.size ≤ q → A q := fun q h => by rw [← hAe]; exact Or.inr h
  have hS : va_S A s.heap s.heap [] := va_S.rf
  have hl := lv_entry ([.ref (ad 0), .int a1]) (n := 7) (Nat.le_of_ble_eq_true rfl)
  rw [lg_entry_eq]
  generalize (lg_sl ([.ref (ad 0), .int a1]) ++ List.replicate (7 - (lg_sl ([.ref (ad 0), .int a1])).length) Slot.unset).toArray = ls at hl ⊢
  have hl : lv_has ls 7 [(0, .ref (ad 0)), (1, .int a1)] := hl
  unfold fX12_harm at h
  clear hAe hD0
  suffices HH : ∀ (H : Heap) (locs : List Loc) (ls : Array Slot), fX12_harm_0 σ a1 = some (r0, σ9) → va_P (dC, dI) vwCl (wG (cM cy ad) ad 40 σ) H → va_D A (wG (cM cy ad) ad 40 σ) → va_S A s.heap H locs → lv_has ls 7 [(0, .ref (ad 0)), (1, .int a1)] → W p l e (headSpec wsX12_harm ({ frames := 30, cells := 0, slots := 0, locals := 689 })).room s m (#[.ref (ad 0), .int a1]) below meth c H locs 0 0 (MQ below (va_Qi (fun (r : Int32) (_ : Unit) => r = r0) (fun (_ : Unit) t => wAt (dC, dI) A (wG (cM cy ad) ad 40 σ9) t) A) (#[.ref (ad 0), .int a1]) s 0 0 A) (F0 m 0 ls []) from HH s.heap [] ls h hP hD hS hl
  have w129 : ∀ (k21 : S2 → Int32 → Int32 → Int32 → Option (Int32 × S2)) (hk21 : ∀ (σ : S2) (x1 : Int32) (x2 : Int32) (x3 : Int32) (H : Heap) (locs : List Loc) (ls : Array Slot), k21 σ x1 x2 x3 = some (r0, σ9) → va_P (dC, dI) vwCl (wG (cM cy ad) ad 40 σ) H → va_D A (wG (cM cy ad) ad 40 σ) → va_S A s.heap H locs → lv_has ls 7 [(0, .ref (ad 0)), (1, .int x1), (2, .int x2), (3, .int x3)] → W p l e (headSpec wsX12_harm ({ frames := 30, cells := 0, slots := 0, locals := 689 })).room s m (#[.ref (ad 0), .int a1]) below meth c H locs 0 0 (MQ below (va_Qi (fun (r : Int32) (_ : Unit) => r = r0) (fun (_ : Unit) t => wAt (dC, dI) A (wG (cM cy ad) ad 40 σ9) t) A) (#[.ref (ad 0), .int a1]) s 0 0 A) (F0 m 21 ls [])) , ∀ (σ : S2) (x1 : Int32) (x2 : Int32) (x3 : Int32) (H : Heap) (locs : List Loc) (ls : Array Slot), fX12_harm_129 k21 σ x1 x2 x3 = some (r0, σ9) → va_P (dC, dI) vwCl (wG (cM cy ad) ad 40 σ) H → va_D A (wG (cM cy ad) ad 40 σ) → va_S A s.heap H locs → lv_has ls 7 [(0, .ref (ad 0)), (1, .int x1), (2, .int x2), (3, .int x3)] → W p l e (headSpec wsX12_harm ({ frames := 30, cells := 0, slots := 0, locals := 689 })).room s m (#[.ref (ad 0), .int a1]) below meth c H locs 0 0 (MQ below (va_Qi (fun (r : Int32) (_ : Unit) => r = r0) (fun (_ : Unit) t => wAt (dC, dI) A (wG (cM cy ad) ad 40 σ9) t) A) (#[.ref (ad 0), .int a1]) s 0 0 A) (F0 m 129 ls []) := by
    intro k21 hk21 σ x1 x2 x3 H locs ls h hP hD hS hl
    unfold fX12_harm_129 at h
    obtain ⟨v1, ev1⟩ : ∃ y : Int32, y = x3 + 1 := ⟨_, rfl⟩
    have h := nmS h ev1
    refine lv_iinc (v := v1) (lv' := [(3, .int v1), (0, .ref (ad 0)), (1, .int x1), (2, .int x2)]) hx hb dX12_harm_129 hl (k := 3) rfl (by rw [ev1]; rfl) (by decide) rfl (fun ls hl => ?_)
    have hl := lv_sub hl [1, 2, 3, 0] (l' := [(0, .ref (ad 0)), (1, .int x1), (2, .int x2), (3, .int v1)]) rfl
    refine lv_goto (tgt := 21) hx hb dX12_harm_132 (by decide) ?_
    exact hk21 σ x1 x2 v1 H locs ls h hP hD hS hl
  have w121 : ∀ (k21 : S2 → Int32 → Int32 → Int32 → Option (Int32 × S2)) (hk21 : ∀ (σ : S2) (x1 : Int32) (x2 : Int32) (x3 : Int32) (H : Heap) (locs : List Loc) (ls : Array Slot), k21 σ x1 x2 x3 = some (r0, σ9) → va_P (dC, dI) vwCl (wG (cM cy ad) ad 40 σ) H → va_D A (wG (cM cy ad) ad 40 σ) → va_S A s.heap H locs → lv_has ls 7 [(0, .ref (ad 0)), (1, .int x1), (2, .int x2), (3, .int x3)] → W p l e (headSpec wsX12_harm ({ frames := 30, cells := 0, slots := 0, locals := 689 })).room s m (#[.ref (ad 0), .int a1]) below meth c H locs 0 0 (MQ below (va_Qi (fun (r : Int32) (_ : Unit) => r = r0) (fun (_ : Unit) t => wAt (dC, dI) A (wG (cM cy ad) ad 40 σ9) t) A) (#[.ref (ad 0), .int a1]) s 0 0 A) (F0 m 21 ls [])) , ∀ (σ : S2) (x1 : Int32) (x3 : Int32) (x4 : Int32) (H : Heap) (locs : List Loc) (ls : Array Slot), fX12_harm_121 k21 σ x1 x3 x4 = some (r0, σ9) → va_P (dC, dI) vwCl (wG (cM cy ad) ad 40 σ) H → va_D A (wG (cM cy ad) ad 40 σ) → va_S A s.heap H locs → lv_has ls 7 [(0, .ref (ad 0)), (1, .int x1), (3, .int x3), (4, .int x4)] → W p l e (headSpec wsX12_harm ({ frames := 30, cells := 0, slots := 0, locals := 689 })).room s m (#[.ref (ad 0), .int a1]) below meth c H locs 0 0 (MQ below (va_Qi (fun (r : Int32) (_ : Unit) => r = r0) (fun (_ : Unit) t => wAt (dC, dI) A (wG (cM cy ad) ad 40 σ9) t) A) (#[.ref (ad 0), .int a1]) s 0 0 A) (F0 m 121 ls []) := by
    intro k21 hk21 σ x1 x3 x4 H locs ls h hP hD hS hl
    unfold fX12_harm_121 at h
    refine lv_iload_n hx hb dX12_harm_121 rfl (lv_at hl 2 rfl) ?_
    refine lv_istore_n (lv' := [(2, .int x3), (0, .ref (ad 0)), (1, .int x1), (3, .int x3), (4, .int x4)]) hx hb dX12_harm_122 rfl hl (by decide) rfl (fun ls hl => ?_)
    have hl := lv_sub hl [1, 2, 0, 3, 4] (l' := [(0, .ref (ad 0)), (1, .int x1), (2, .int x3), (3, .int x3), (4, .int x4)]) rfl
    refine lv_aload_n hx hb dX12_harm_123 rfl (lv_at hl 0 rfl) ?_
    refine lv_iload hx hb dX12_harm_124 (lv_at hl 4 rfl) ?_
    refine ux_put (D := (dC, dI)) (ci := 12) (C := RX12) (T := TX12) (M := 59) (fs := (oM ad (σ.1 0))) hx hb hts (fun _ h9 => List.mem_cons_of_mem _ (List.mem_append_right _ h9)) tyX12 tyX12_ok nmX12 hown hK hP hD hS 0 (Nat.le_of_ble_eq_true rfl) rfl rfl 36 (by decide) (hts (.fieldLink RX12 95 "SeatsRoundModel" "harmShare" "I") (List.mem_of_getElem? (i := 5) rfl)) (fun _ h9 => h9) rfl (tyX12_ok 36 (by decide)) rfl rfl (Nat.le_of_ble_eq_true rfl) (oM_set_36 _ _ _ _ _) h dX12_harm_126 (fun σ2 H locs h hP hD hS => ?_)
    exact w129 _ hk21 σ2 x1 x3 x3 H locs ls h hP hD hS (lv_sub hl [0, 1, 2, 3] rfl)
  have w100 : ∀ (k52 : S2 → Int32 → Int32 → Int32 → Int32 → Int32 → Option (Int32 × S2)) (hk52 : ∀ (σ : S2) (x1 : Int32) (x2 : Int32) (x3 : Int32) (x4 : Int32) (x5 : Int32) (H : Heap) (locs : List Loc) (ls : Array Slot), k52 σ x1 x2 x3 x4 x5 = some (r0, σ9) → va_P (dC, dI) vwCl (wG (cM cy ad) ad 40 σ) H → va_D A (wG (cM cy ad) ad 40 σ) → va_S A s.heap H locs → lv_has ls 7 [(0, .ref (ad 0)), (1, .int x1), (2, .int x2), (3, .int x3), (4, .int x4), (5, .int x5)] → W p l e (headSpec wsX12_harm ({ frames := 30, cells := 0, slots := 0, locals := 689 })).room s m (#[.ref (ad 0), .int a1]) below meth c H locs 0 0 (MQ below (va_Qi (fun (r : Int32) (_ : Unit) => r = r0) (fun (_ : Unit) t => wAt (dC, dI) A (wG (cM cy ad) ad 40 σ9) t) A) (#[.ref (ad 0), .int a1]) s 0 0 A) (F0 m 52 ls [])) , ∀ (σ : S2) (x1 : Int32) (x2 : Int32) (x3 : Int32) (x5 : Int32) (s0 : Int32) (H : Heap) (locs : List Loc) (ls : Array Slot), fX12_harm_100 k52 σ x1 x2 x3 x5 s0 = some (r0, σ9) → va_P (dC, dI) vwCl (wG (cM cy ad) ad 40 σ) H → va_D A (wG (cM cy ad) ad 40 σ) → va_S A s.heap H locs → lv_has ls 7 [(0, .ref (ad 0)), (1, .int x1), (2, .int x2), (3, .int x3), (5, .int x5)] → W p l e (headSpec wsX12_harm ({ frames := 30, cells := 0, slots := 0, locals := 689 })).room s m (#[.ref (ad 0), .int a1]) below meth c H locs 0 0 (MQ below (va_Qi (fun (r : Int32) (_ : Unit) => r = r0) (fun (_ : Unit) t => wAt (dC, dI) A (wG (cM cy ad) ad 40 σ9) t) A) (#[.ref (ad 0), .int a1]) s 0 0 A) (F0 m 100 ls [.int s0]) := by
    intro k52 hk52 σ x1 x2 x3 x5 s0 H locs ls h hP hD hS hl
    unfold fX12_harm_100 at h
    refine lv_istore (lv' := [(4, .int s0), (0, .ref (ad 0)), (1, .int x1), (2, .int x2), (3, .int x3), (5, .int x5)]) hx hb dX12_harm_100 hl (by decide) rfl (fun ls hl => ?_)
    have hl := lv_sub hl [1, 2, 3, 4, 0, 5] (l' := [(0, .ref (ad 0)), (1, .int x1), (2, .int x2), (3, .int x3), (4, .int s0), (5, .int x5)]) rfl
    obtain ⟨v3, ev3⟩ : ∃ y : Int32, y = x5 + 1 := ⟨_, rfl⟩
    have h := nmS h ev3
    refine lv_iinc (v := v3) (lv' := [(5, .int v3), (0, .ref (ad 0)), (1, .int x1), (2, .int x2), (3, .int x3), (4, .int s0)]) hx hb dX12_harm_102 hl (k := 5) rfl (by rw [ev3]; rfl) (by decide) rfl (fun ls hl => ?_)
    have hl := lv_sub hl [1, 2, 3, 4, 5, 0] (l' := [(0, .ref (ad 0)), (1, .int x1), (2, .int x2), (3, .int x3), (4, .int s0), (5, .int v3)]) rfl
    refine lv_goto (tgt := 52) hx hb dX12_harm_105 (by decide) ?_
    exact hk52 σ x1 x2 x3 s0 v3 H locs ls h hP hD hS hl
  have w84 : ∀ (k52 : S2 → Int32 → Int32 → Int32 → Int32 → Int32 → Option (Int32 × S2)) (hk52 : ∀ (σ : S2) (x1 : Int32) (x2 : Int32) (x3 : Int32) (x4 : Int32) (x5 : Int32) (H : Heap) (locs : List Loc) (ls : Array Slot), k52 σ x1 x2 x3 x4 x5 = some (r0, σ9) → va_P (dC, dI) vwCl (wG (cM cy ad) ad 40 σ) H → va_D A (wG (cM cy ad) ad 40 σ) → va_S A s.heap H locs → lv_has ls 7 [(0, .ref (ad 0)), (1, .int x1), (2, .int x2), (3, .int x3), (4, .int x4), (5, .int x5)] → W p l e (headSpec wsX12_harm ({ frames := 30, cells := 0, slots := 0, locals := 689 })).room s m (#[.ref (ad 0), .int a1]) below meth c H locs 0 0 (MQ below (va_Qi (fun (r : Int32) (_ : Unit) => r = r0) (fun (_ : Unit) t => wAt (dC, dI) A (wG (cM cy ad) ad 40 σ9) t) A) (#[.ref (ad 0), .int a1]) s 0 0 A) (F0 m 52 ls [])) , ∀ (σ : S2) (x1 : Int32) (x2 : Int32) (x3 : Int32) (x4 : Int32) (x5 : Int32) (s0 : Int32) (H : Heap) (locs : List Loc) (ls : Array Slot), fX12_harm_84 k52 σ x1 x2 x3 x4 x5 s0 = some (r0, σ9) → va_P (dC, dI) vwCl (wG (cM cy ad) ad 40 σ) H → va_D A (wG (cM cy ad) ad 40 σ) → va_S A s.heap H locs → lv_has ls 7 [(0, .ref (ad 0)), (1, .int x1), (2, .int x2), (3, .int x3), (4, .int x4), (5, .int x5)] → W p l e (headSpec wsX12_harm ({ frames := 30, cells := 0, slots := 0, locals := 689 })).room s m (#[.ref (ad 0), .int a1]) below meth c H locs 0 0 (MQ below (va_Qi (fun (r : Int32) (_ : Unit) => r = r0) (fun (_ : Unit) t => wAt (dC, dI) A (wG (cM cy ad) ad 40 σ9) t) A) (#[.ref (ad 0), .int a1]) s 0 0 A) (F0 m 84 ls [.int s0]) := by
    intro k52 hk52 σ x1 x2 x3 x4 x5 s0 H locs ls h hP hD hS hl
    unfold fX12_harm_84 at h
    refine lv_istore (lv' := [(6, .int s0), (0, .ref (ad 0)), (1, .int x1), (2, .int x2), (3, .int x3), (4, .int x4), (5, .int x5)]) hx hb dX12_harm_84 hl (by decide) rfl (fun ls hl => ?_)
    have hl := lv_sub hl [1, 2, 3, 4, 5, 6, 0] (l' := [(0, .ref (ad 0)), (1, .int x1), (2, .int x2), (3, .int x3), (4, .int x4), (5, .int x5), (6, .int s0)]) rfl
    refine lv_iload hx hb dX12_harm_86 (lv_at hl 6 rfl) ?_
    refine lv_iload hx hb dX12_harm_88 (lv_at hl 4 rfl) ?_
    refine lv_icmp_le (tgt := 98) hx hb dX12_harm_90 (by decide) (fun hcd => ?_) (fun hcd => ?_)
    · have h := cdP hcd h
      refine lv_iload hx hb dX12_harm_98 (lv_at hl 4 rfl) ?_
      exact w100 _ hk52 σ x1 x2 x3 x5 x4 H locs ls h hP hD hS (lv_sub hl [0, 1, 2, 3, 5] rfl)
    · have h := cdN hcd h
      refine lv_iload hx hb dX12_harm_93 (lv_at hl 6 rfl) ?_
      refine lv_goto (tgt := 100) hx hb dX12_harm_95 (by decide) ?_
      exact w100 _ hk52 σ x1 x2 x3 x5 s0 H locs ls h hP hD hS (lv_sub hl [0, 1, 2, 3, 5] rfl)
  have w52 : ∀ (k21 : S2 → Int32 → Int32 → Int32 → Option (Int32 × S2)) (hk21 : ∀ (σ : S2) (x1 : Int32) (x2 : Int32) (x3 : Int32) (H : Heap) (locs : List Loc) (ls : Array Slot), k21 σ x1 x2 x3 = some (r0, σ9) → va_P (dC, dI) vwCl (wG (cM cy ad) ad 40 σ) H → va_D A (wG (cM cy ad) ad 40 σ) → va_S A s.heap H locs → lv_has ls 7 [(0, .ref (ad 0)), (1, .int x1), (2, .int x2), (3, .int x3)] → W p l e (headSpec wsX12_harm ({ frames := 30, cells := 0, slots := 0, locals := 689 })).room s m (#[.ref (ad 0), .int a1]) below meth c H locs 0 0 (MQ below (va_Qi (fun (r : Int32) (_ : Unit) => r = r0) (fun (_ : Unit) t => wAt (dC, dI) A (wG (cM cy ad) ad 40 σ9) t) A) (#[.ref (ad 0), .int a1]) s 0 0 A) (F0 m 21 ls [])) (n : Nat), ∀ (σ : S2) (x1 : Int32) (x2 : Int32) (x3 : Int32) (x4 : Int32) (x5 : Int32) (H : Heap) (locs : List Loc) (ls : Array Slot), fX12_harm_52 k21 n σ x1 x2 x3 x4 x5 = some (r0, σ9) → va_P (dC, dI) vwCl (wG (cM cy ad) ad 40 σ) H → va_D A (wG (cM cy ad) ad 40 σ) → va_S A s.heap H locs → lv_has ls 7 [(0, .ref (ad 0)), (1, .int x1), (2, .int x2), (3, .int x3), (4, .int x4), (5, .int x5)] → W p l e (headSpec wsX12_harm ({ frames := 30, cells := 0, slots := 0, locals := 689 })).room s m (#[.ref (ad 0), .int a1]) below meth c H locs 0 0 (MQ below (va_Qi (fun (r : Int32) (_ : Unit) => r = r0) (fun (_ : Unit) t => wAt (dC, dI) A (wG (cM cy ad) ad 40 σ9) t) A) (#[.ref (ad 0), .int a1]) s 0 0 A) (F0 m 52 ls []) := by
    intro k21 hk21 n
    induction n with
    | zero => intro σ x1 x2 x3 x4 x5 H locs ls h; cases h
    | succ n ih =>
    intro σ x1 x2 x3 x4 x5 H locs ls h hP hD hS hl
    unfold fX12_harm_52 at h
    refine lv_iload hx hb dX12_harm_52 (lv_at hl 5 rfl) ?_
    refine lv_aload_n hx hb dX12_harm_54 rfl (lv_at hl 0 rfl) ?_
    refine ux_get (D := (dC, dI)) (ci := 12) (v := .int (σ.1 0 3)) (C := RX12) (T := TX12) (M := 59) (fs := (oM ad (σ.1 0))) hx hb hts (fun _ h9 => List.mem_cons_of_mem _ (List.mem_append_right _ h9)) hown hK hP 0 (Nat.le_of_ble_eq_true rfl) rfl rfl 3 (by decide) (hts (.fieldLink RX12 140 "SeatsRoundModel" "keepers" "I") (List.mem_of_getElem? (i := 4) rfl)) (fun _ h9 => h9) rfl dX12_harm_55 ?_
    refine lv_icmp_ge (tgt := 108) hx hb dX12_harm_58 (by decide) (fun hcd => ?_) (fun hcd => ?_)
    · have h := cdP hcd h
      refine lv_iload_n hx hb dX12_harm_108 rfl (lv_at hl 2 rfl) ?_
      refine lv_if_lt (tgt := 121) hx hb dX12_harm_109 (by decide) (fun hcd => ?_) (fun hcd => ?_)
      · have h := cdP hcd h
        exact w121 _ hk21 σ x1 x3 x4 H locs ls h hP hD hS (lv_sub hl [0, 1, 3, 4] rfl)
      · have h := cdN hcd h
        refine lv_iload hx hb dX12_harm_112 (lv_at hl 4 rfl) ?_
        refine lv_aload_n hx hb dX12_harm_114 rfl (lv_at hl 0 rfl) ?_
        refine ux_get (D := (dC, dI)) (ci := 12) (v := .int (σ.1 0 36)) (C := RX12) (T := TX12) (M := 59) (fs := (oM ad (σ.1 0))) hx hb hts (fun _ h9 => List.mem_cons_of_mem _ (List.mem_append_right _ h9)) hown hK hP 0 (Nat.le_of_ble_eq_true rfl) rfl rfl 36 (by decide) (hts (.fieldLink RX12 95 "SeatsRoundModel" "harmShare" "I") (List.mem_of_getElem? (i := 5) rfl)) (fun _ h9 => h9) rfl dX12_harm_115 ?_
        refine lv_icmp_ge (tgt := 129) hx hb dX12_harm_118 (by decide) (fun hcd => ?_) (fun hcd => ?_)
        · have h := cdP hcd h
          exact w129 _ hk21 σ x1 x2 x3 H locs ls h hP hD hS (lv_sub hl [0, 1, 2, 3] rfl)
        · have h := cdN hcd h
          exact w121 _ hk21 σ x1 x3 x4 H locs ls h hP hD hS (lv_sub hl [0, 1, 3, 4] rfl)
    · have h := cdN hcd h
      refine lv_aload_n hx hb dX12_harm_61 rfl (lv_at hl 0 rfl) ?_
      refine lv_bipush (v := 10) hx hb dX12_harm_62 (by decide) ?_
      refine lv_iload hx hb dX12_harm_64 (lv_at hl 5 rfl) ?_
      obtain ⟨r4, hf5, h⟩ := biS h
      refine ux_calli (va_runV (As := [.int 10, .int x5]) (rest := []) ⟨hx, hb, hml, hown, hts⟩ (tX12_isIn l dC dI cy ad σ 10 x5 H.size r4 hf5) (cwV 2 hts gX12_harm_X12_isIn rfl rfl rfl (by decide +kernel) ⟨Nat.le_of_ble_eq_true rfl, Nat.le_of_ble_eq_true rfl⟩) (wp_V hK hN hP hD (va_recv hK hP (ci := 12) (q0 := 0) rfl (wG_of (Nat.le_of_ble_eq_true rfl) rfl))) rfl rfl hl.1 rfl (lv_room (Nat.le_of_ble_eq_true rfl)) dX12_harm_66 ⟨Nat.le_of_ble_eq_true rfl, Nat.le_of_ble_eq_true rfl⟩) hD hS hA (fun H locs hP hD hS => ?_)
      refine lv_if_eq (tgt := 83) hx hb dX12_harm_69 (by decide) (fun hcd => ?_) (fun hcd => ?_)
      · have h := cdP hcd h
        refine lv_iconst (v := 0) hx hb dX12_harm_83 (by decide) ?_
        exact w84 _ ih σ x1 x2 x3 x4 x5 0 H locs ls h hP hD hS hl
      · have h := cdN hcd h
        refine lv_aload_n hx hb dX12_harm_72 rfl (lv_at hl 0 rfl) ?_
        refine lv_bipush (v := 10) hx hb dX12_harm_73 (by decide) ?_
        refine lv_iload hx hb dX12_harm_75 (lv_at hl 5 rfl) ?_
        obtain ⟨r6, σ7, hf8, h⟩ := bsS h
        refine ux_calli (va_runV (As := [.int 10, .int x5]) (rest := []) ⟨hx, hb, hml, hown, hts⟩ (tX12_shareOf l dC dI cy ad σ 10 x5 H.size r6 σ7 hf8) (cwV 2 hts gX12_harm_X12_shareOf rfl rfl rfl (by decide +kernel) ⟨Nat.le_of_ble_eq_true rfl, Nat.le_of_ble_eq_true rfl⟩) (wp_V hK hN hP hD (va_recv hK hP (ci := 12) (q0 := 0) rfl (wG_of (Nat.le_of_ble_eq_true rfl) rfl))) rfl rfl hl.1 rfl (lv_room (Nat.le_of_ble_eq_true rfl)) dX12_harm_77 ⟨Nat.le_of_ble_eq_true rfl, Nat.le_of_ble_eq_true rfl⟩) hD hS hA (fun H locs hP hD hS => ?_)
        refine lv_goto (tgt := 84) hx hb dX12_harm_80 (by decide) ?_
        exact w84 _ ih σ7 x1 x2 x3 x4 x5 r6 H locs ls h hP hD hS hl
  have w21 : ∀ (n : Nat), ∀ (σ : S2) (x1 : Int32) (x2 : Int32) (x3 : Int32) (H : Heap) (locs : List Loc) (ls : Array Slot), fX12_harm_21 n σ x1 x2 x3 = some (r0, σ9) → va_P (dC, dI) vwCl (wG (cM cy ad) ad 40 σ) H → va_D A (wG (cM cy ad) ad 40 σ) → va_S A s.heap H locs → lv_has ls 7 [(0, .ref (ad 0)), (1, .int x1), (2, .int x2), (3, .int x3)] → W p l e (headSpec wsX12_harm ({ frames := 30, cells := 0, slots := 0, locals := 689 })).room s m (#[.ref (ad 0), .int a1]) below meth c H locs 0 0 (MQ below (va_Qi (fun (r : Int32) (_ : Unit) => r = r0) (fun (_ : Unit) t => wAt (dC, dI) A (wG (cM cy ad) ad 40 σ9) t) A) (#[.ref (ad 0), .int a1]) s 0 0 A) (F0 m 21 ls []) := by
    intro n
    induction n with
    | zero => intro σ x1 x2 x3 H locs ls h; cases h
    | succ n ih =>
    intro σ x1 x2 x3 H locs ls h hP hD hS hl
    unfold fX12_harm_21 at h
    refine lv_iload_n hx hb dX12_harm_21 rfl (lv_at hl 3 rfl) ?_
    refine lv_aload_n hx hb dX12_harm_22 rfl (lv_at hl 0 rfl) ?_
    refine ux_get (D := (dC, dI)) (ci := 12) (v := .int (σ.1 0 34)) (C := RX12) (T := TX12) (M := 59) (fs := (oM ad (σ.1 0))) hx hb hts (fun _ h9 => List.mem_cons_of_mem _ (List.mem_append_right _ h9)) hown hK hP 0 (Nat.le_of_ble_eq_true rfl) rfl rfl 34 (by decide) (hts (.fieldLink RX12 331 "SeatsRoundModel" "turnings" "I") (List.mem_of_getElem? (i := 1) rfl)) (fun _ h9 => h9) rfl dX12_harm_23 ?_
    refine lv_icmp_ge (tgt := 135) hx hb dX12_harm_26 (by decide) (fun hcd => ?_) (fun hcd => ?_)
    · have h := cdP hcd h
      refine lv_aload_n hx hb dX12_harm_135 rfl (lv_at hl 0 rfl) ?_
      refine lv_iconst (v := 0) hx hb dX12_harm_136 (by decide) ?_
      refine ux_put (D := (dC, dI)) (ci := 12) (C := RX12) (T := TX12) (M := 59) (fs := (oM ad (σ.1 0))) hx hb hts (fun _ h9 => List.mem_cons_of_mem _ (List.mem_append_right _ h9)) tyX12 tyX12_ok nmX12 hown hK hP hD hS 0 (Nat.le_of_ble_eq_true rfl) rfl rfl 34 (by decide) (hts (.fieldLink RX12 331 "SeatsRoundModel" "turnings" "I") (List.mem_of_getElem? (i := 1) rfl)) (fun _ h9 => h9) rfl (tyX12_ok 34 (by decide)) rfl rfl (Nat.le_of_ble_eq_true rfl) (oM_set_34 _ _ _ _ _) h dX12_harm_137 (fun σ9 H locs h hP hD hS => ?_)
      refine lv_iload_n hx hb dX12_harm_140 rfl (lv_at hl 2 rfl) ?_
      exact ux_iret hx hb hr h hP hD hS hlocks dX12_harm_141
    · have h := cdN hcd h
      refine lv_aload_n hx hb dX12_harm_29 rfl (lv_at hl 0 rfl) ?_
      refine lv_iload_n hx hb dX12_harm_30 rfl (lv_at hl 1 rfl) ?_
      refine lv_aload_n hx hb dX12_harm_31 rfl (lv_at hl 0 rfl) ?_
      refine ux_get (D := (dC, dI)) (ci := 12) (v := .ref (ad 8)) (C := RX12) (T := TX12) (M := 59) (fs := (oM ad (σ.1 0))) hx hb hts (fun _ h9 => List.mem_cons_of_mem _ (List.mem_append_right _ h9)) hown hK hP 0 (Nat.le_of_ble_eq_true rfl) rfl rfl 10 (by decide) (hts (.fieldLink RX12 32 "SeatsRoundModel" "tableOf" "[I") (List.mem_of_getElem? (i := 2) rfl)) (fun _ h9 => h9) rfl dX12_harm_32 ?_
      refine lv_iload_n hx hb dX12_harm_35 rfl (lv_at hl 1 rfl) ?_
      refine ux_iald hx hb hK hP 8 0 (Nat.le_of_ble_eq_true rfl) (cM_8 _ _ _ _) rfl h dX12_harm_36 (fun v10 h => ?_)
      refine lv_aload_n hx hb dX12_harm_37 rfl (lv_at hl 0 rfl) ?_
      refine ux_get (D := (dC, dI)) (ci := 12) (v := .ref (ad 28)) (C := RX12) (T := TX12) (M := 59) (fs := (oM ad (σ.1 0))) hx hb hts (fun _ h9 => List.mem_cons_of_mem _ (List.mem_append_right _ h9)) hown hK hP 0 (Nat.le_of_ble_eq_true rfl) rfl rfl 35 (by decide) (hts (.fieldLink RX12 92 "SeatsRoundModel" "turning" "[I") (List.mem_of_getElem? (i := 3) rfl)) (fun _ h9 => h9) rfl dX12_harm_38 ?_
      refine lv_iload_n hx hb dX12_harm_41 rfl (lv_at hl 3 rfl) ?_
      refine ux_iald hx hb hK hP 28 0 (Nat.le_of_ble_eq_true rfl) (cM_28 _ _ _ _) rfl h dX12_harm_42 (fun v11 h => ?_)
      obtain ⟨r12, σ13, hf14, h⟩ := bsS h
      refine ux_callv (va_runV (As := [.int x1, .int v10, .int v11]) (rest := []) ⟨hx, hb, hml, hown, hts⟩ (tX12_tries l dC dI cy ad σ x1 v10 v11 H.size r12 σ13 hf14) (cwV 3 hts gX12_harm_X12_tries rfl rfl rfl (by decide +kernel) ⟨Nat.le_of_ble_eq_true rfl, Nat.le_of_ble_eq_true rfl⟩) (wp_V hK hN hP hD (va_recv hK hP (ci := 12) (q0 := 0) rfl (wG_of (Nat.le_of_ble_eq_true rfl) rfl))) rfl rfl hl.1 rfl (lv_room (Nat.le_of_ble_eq_true rfl)) dX12_harm_43 ⟨Nat.le_of_ble_eq_true rfl, Nat.le_of_ble_eq_true rfl⟩) hD hS hA (fun H locs hP hD hS => ?_)
      refine lv_iconst (v := 0) hx hb dX12_harm_46 (by decide) ?_
      refine lv_istore (lv' := [(4, .int 0), (0, .ref (ad 0)), (1, .int x1), (2, .int x2), (3, .int x3)]) hx hb dX12_harm_47 hl (by decide) rfl (fun ls hl => ?_)
      have hl := lv_sub hl [1, 2, 3, 4, 0] (l' := [(0, .ref (ad 0)), (1, .int x1), (2, .int x2), (3, .int x3), (4, .int 0)]) rfl
      refine lv_iconst (v := 0) hx hb dX12_harm_49 (by decide) ?_
      refine lv_istore (lv' := [(5, .int 0), (0, .ref (ad 0)), (1, .int x1), (2, .int x2), (3, .int x3), (4, .int 0)]) hx hb dX12_harm_50 hl (by decide) rfl (fun ls hl => ?_)
      have hl := lv_sub hl [1, 2, 3, 4, 5, 0] (l' := [(0, .ref (ad 0)), (1, .int x1), (2, .int x2), (3, .int x3), (4, .int 0), (5, .int 0)]) rfl
      exact w52 _ ih FU σ13 x1 x2 x3 0 0 H locs ls h hP hD hS hl
  have w0 : ∀ (σ : S2) (x1 : Int32) (H : Heap) (locs : List Loc) (ls : Array Slot), fX12_harm_0 σ x1 = some (r0, σ9) → va_P (dC, dI) vwCl (wG (cM cy ad) ad 40 σ) H → va_D A (wG (cM cy ad) ad 40 σ) → va_S A s.heap H locs → lv_has ls 7 [(0, .ref (ad 0)), (1, .int x1)] → W p l e (headSpec wsX12_harm ({ frames := 30, cells := 0, slots := 0, locals := 689 })).room s m (#[.ref (ad 0), .int a1]) below meth c H locs 0 0 (MQ below (va_Qi (fun (r : Int32) (_ : Unit) => r = r0) (fun (_ : Unit) t => wAt (dC, dI) A (wG (cM cy ad) ad 40 σ9) t) A) (#[.ref (ad 0), .int a1]) s 0 0 A) (F0 m 0 ls []) := by
    intro σ x1 H locs ls h hP hD hS hl
    unfold fX12_harm_0 at h
    refine lv_aload_n hx hb dX12_harm_0 rfl (lv_at hl 0 rfl) ?_
    refine lv_iload_n hx hb dX12_harm_1 rfl (lv_at hl 1 rfl) ?_
    obtain ⟨r15, hf16, h⟩ := biS h
    refine ux_calli (va_runV (As := [.int x1]) (rest := []) ⟨hx, hb, hml, hown, hts⟩ (tX12_isTable l dC dI cy ad σ x1 H.size r15 hf16) (cwV 1 hts gX12_harm_X12_isTable rfl rfl rfl (by decide +kernel) ⟨Nat.le_of_ble_eq_true rfl, Nat.le_of_ble_eq_true rfl⟩) (wp_V hK hN hP hD (va_recv hK hP (ci := 12) (q0 := 0) rfl (wG_of (Nat.le_of_ble_eq_true rfl) rfl))) rfl rfl hl.1 rfl (lv_room (Nat.le_of_ble_eq_true rfl)) dX12_harm_2 ⟨Nat.le_of_ble_eq_true rfl, Nat.le_of_ble_eq_true rfl⟩) hD hS hA (fun H locs hP hD hS => ?_)
    refine lv_if_eq (tgt := 15) hx hb dX12_harm_5 (by decide) (fun hcd => ?_) (fun hcd => ?_)
    · have h := cdP hcd h
      refine lv_iconst (v := (-1)) hx hb dX12_harm_15 (by decide) ?_
      exact ux_iret hx hb hr h hP hD hS hlocks dX12_harm_16
    · have h := cdN hcd h
      refine lv_aload_n hx hb dX12_harm_8 rfl (lv_at hl 0 rfl) ?_
      refine ux_get (D := (dC, dI)) (ci := 12) (v := .int (σ.1 0 34)) (C := RX12) (T := TX12) (M := 59) (fs := (oM ad (σ.1 0))) hx hb hts (fun _ h9 => List.mem_cons_of_mem _ (List.mem_append_right _ h9)) hown hK hP 0 (Nat.le_of_ble_eq_true rfl) rfl rfl 34 (by decide) (hts (.fieldLink RX12 331 "SeatsRoundModel" "turnings" "I") (List.mem_of_getElem? (i := 1) rfl)) (fun _ h9 => h9) rfl dX12_harm_9 ?_
      refine lv_if_ne (tgt := 17) hx hb dX12_harm_12 (by decide) (fun hcd => ?_) (fun hcd => ?_)
      · have h := cdN hcd h
        refine lv_iconst (v := (-1)) hx hb dX12_harm_17 (by decide) ?_
        refine lv_istore_n (lv' := [(2, .int (-1)), (0, .ref (ad 0)), (1, .int x1)]) hx hb dX12_harm_18 rfl hl (by decide) rfl (fun ls hl => ?_)
        have hl := lv_sub hl [1, 2, 0] (l' := [(0, .ref (ad 0)), (1, .int x1), (2, .int (-1))]) rfl
        refine lv_iconst (v := 0) hx hb dX12_harm_19 (by decide) ?_
        refine lv_istore_n (lv' := [(3, .int 0), (0, .ref (ad 0)), (1, .int x1), (2, .int (-1))]) hx hb dX12_harm_20 rfl hl (by decide) rfl (fun ls hl => ?_)
        have hl := lv_sub hl [1, 2, 3, 0] (l' := [(0, .ref (ad 0)), (1, .int x1), (2, .int (-1)), (3, .int 0)]) rfl
        exact w21 FU σ x1 (-1) 0 H locs ls h hP hD hS hl
      · have h := cdP hcd h
        refine lv_iconst (v := (-1)) hx hb dX12_harm_15 (by decide) ?_
        exact ux_iret hx hb hr h hP hD hS hlocks dX12_harm_16
  intro H locs ls h hP hD hS hl
  exact w0 σ a1 H locs ls h hP hD hS (lv_sub hl [0, 1] rfl)

set_option maxHeartbeats 4000000 in
set_option maxRecDepth 100000 in
theorem tX12_harmed (l : Launch) (dC : Nat → ClassId) (dI : Nat → Nat → Nat) (cy : Nat → ClassId) (ad : Nat → Nat) (σ : S2)  (sz : Nat) (r0 : Int32) (h : fX12_harmed σ = some r0) : Met l yX12_harmed wsX12_harmed ({ frames := 1, cells := 0, slots := 0, locals := 23 }) (va_Pc [.ref (ad 0)] (wPre (dC, dI) cy (wG (cM cy ad) ad 40 σ) sz)) (va_Qi (fun (r : Int32) (_ : Unit) => r = r0) (fun (_ : Unit) t => wAt (dC, dI) (va_A (wG (cM cy ad) ad 40 σ) sz) (wG (cM cy ad) ad 40 σ) t) (va_A (wG (cM cy ad) ad 40 σ) sz)) 0 0 (va_A (wG (cM cy ad) ad 40 σ) sz) := by
  refine Met.ofW (cc := cX12_harmed) (maxL := 1) (ret := (some .int)) (by decide) rfl ?_
  intro p e s m args below meth c s₁ B hml hv
  obtain ⟨rfl, hsz, hP, hK, hD0, hN⟩ := hv
  have hx := B.exec
  have hb := B.bytes
  have hr := B.returns
  have hts := atoms_spec (ws := wsX12_harmed) B.pre
  have hown : s.vm.findClass RX12 = some m.cls := findClass_of_methodNamed B.named
  have hlocks := B.notSynchronized
  subst hsz
  have hD := hD0.self (sz := s.heap.size)
  generalize hAe : va_A (wG (cM cy ad) ad 40 σ) s.heap.size = A at hD ⊢
  have hA : ∀ q : Nat, s.heap.size ≤ q → A q := fun q h => by rw [← hAe]; exact Or.inr h
  have hS : va_S A s.heap s.heap [] := va_S.rf
  have hl := lv_entry ([.ref (ad 0)]) (n := 1) (Nat.le_of_ble_eq_true rfl)
  rw [lg_entry_eq]
  generalize (lg_sl ([.ref (ad 0)]) ++ List.replicate (1 - (lg_sl ([.ref (ad 0)])).length) Slot.unset).toArray = ls at hl ⊢
  have hl : lv_has ls 1 [(0, .ref (ad 0))] := hl
  unfold fX12_harmed at h
  clear hAe hD0
  suffices HH : ∀ (H : Heap) (locs : List Loc) (ls : Array Slot), fX12_harmed_0 σ = some r0 → va_P (dC, dI) vwCl (wG (cM cy ad) ad 40 σ) H → va_D A (wG (cM cy ad) ad 40 σ) → va_S A s.heap H locs → lv_has ls 1 [(0, .ref (ad 0))] → W p l e (headSpec wsX12_harmed ({ frames := 1, cells := 0, slots := 0, locals := 23 })).room s m (#[.ref (ad 0)]) below meth c H locs 0 0 (MQ below (va_Qi (fun (r : Int32) (_ : Unit) => r = r0) (fun (_ : Unit) t => wAt (dC, dI) A (wG (cM cy ad) ad 40 σ) t) A) (#[.ref (ad 0)]) s 0 0 A) (F0 m 0 ls []) from HH s.heap [] ls h hP hD hS hl
  have w0 : ∀ (σ : S2)  (H : Heap) (locs : List Loc) (ls : Array Slot), fX12_harmed_0 σ = some r0 → va_P (dC, dI) vwCl (wG (cM cy ad) ad 40 σ) H → va_D A (wG (cM cy ad) ad 40 σ) → va_S A s.heap H locs → lv_has ls 1 [(0, .ref (ad 0))] → W p l e (headSpec wsX12_harmed ({ frames := 1, cells := 0, slots := 0, locals := 23 })).room s m (#[.ref (ad 0)]) below meth c H locs 0 0 (MQ below (va_Qi (fun (r : Int32) (_ : Unit) => r = r0) (fun (_ : Unit) t => wAt (dC, dI) A (wG (cM cy ad) ad 40 σ) t) A) (#[.ref (ad 0)]) s 0 0 A) (F0 m 0 ls []) := by
    intro σ H locs ls h hP hD hS hl
    unfold fX12_harmed_0 at h
    refine lv_aload_n hx hb dX12_harmed_0 rfl (lv_at hl 0 rfl) ?_
    refine ux_get (D := (dC, dI)) (ci := 12) (v := .int (σ.1 0 36)) (C := RX12) (T := TX12) (M := 59) (fs := (oM ad (σ.1 0))) hx hb hts (fun _ h9 => List.mem_cons_of_mem _ (List.mem_append_right _ h9)) hown hK hP 0 (Nat.le_of_ble_eq_true rfl) rfl rfl 36 (by decide) (hts (.fieldLink RX12 95 "SeatsRoundModel" "harmShare" "I") (List.mem_of_getElem? (i := 1) rfl)) (fun _ h9 => h9) rfl dX12_harmed_1 ?_
    exact ux_iretP hx hb hr h hP hD hS hlocks dX12_harmed_4
  intro H locs ls h hP hD hS hl
  exact w0 σ H locs ls h hP hD hS (lv_sub hl [0] rfl)

set_option maxHeartbeats 4000000 in
set_option maxRecDepth 100000 in
theorem tX12_begins (l : Launch) (dC : Nat → ClassId) (dI : Nat → Nat → Nat) (cy : Nat → ClassId) (ad : Nat → Nat) (σ : S2) (a1 : Int32) (sz : Nat) (r0 : Unit) (σ9 : S2) (h : fX12_begins σ a1 = some (r0, σ9)) : Met l yX12_begins wsX12_begins ({ frames := 1, cells := 0, slots := 0, locals := 23 }) (va_Pc [.ref (ad 0), .int a1] (wPre (dC, dI) cy (wG (cM cy ad) ad 40 σ) sz)) (va_Qv (fun (_ : Unit) => True) (fun (_ : Unit) t => wAt (dC, dI) (va_A (wG (cM cy ad) ad 40 σ) sz) (wG (cM cy ad) ad 40 σ9) t) (va_A (wG (cM cy ad) ad 40 σ) sz)) 0 0 (va_A (wG (cM cy ad) ad 40 σ) sz) := by
  refine Met.ofW (cc := cX12_begins) (maxL := 2) (ret := none) (by decide) rfl ?_
  intro p e s m args below meth c s₁ B hml hv
  obtain ⟨rfl, hsz, hP, hK, hD0, hN⟩ := hv
  have hx := B.exec
  have hb := B.bytes
  have hr := B.returns
  have hts := atoms_spec (ws := wsX12_begins) B.pre
  have hown : s.vm.findClass RX12 = some m.cls := findClass_of_methodNamed B.named
  have hlocks := B.notSynchronized
  subst hsz
  have hD := hD0.self (sz := s.heap.size)
  generalize hAe : va_A (wG (cM cy ad) ad 40 σ) s.heap.size = A at hD ⊢
  have hA : ∀ q : Nat, s.heap.size ≤ q → A q := fun q h => by rw [← hAe]; exact Or.inr h
  have hS : va_S A s.heap s.heap [] := va_S.rf
  have hl := lv_entry ([.ref (ad 0), .int a1]) (n := 2) (Nat.le_of_ble_eq_true rfl)
  rw [lg_entry_eq]
  generalize (lg_sl ([.ref (ad 0), .int a1]) ++ List.replicate (2 - (lg_sl ([.ref (ad 0), .int a1])).length) Slot.unset).toArray = ls at hl ⊢
  have hl : lv_has ls 2 [(0, .ref (ad 0)), (1, .int a1)] := hl
  unfold fX12_begins at h
  clear hAe hD0
  suffices HH : ∀ (H : Heap) (locs : List Loc) (ls : Array Slot), fX12_begins_0 σ a1 = some (r0, σ9) → va_P (dC, dI) vwCl (wG (cM cy ad) ad 40 σ) H → va_D A (wG (cM cy ad) ad 40 σ) → va_S A s.heap H locs → lv_has ls 2 [(0, .ref (ad 0)), (1, .int a1)] → W p l e (headSpec wsX12_begins ({ frames := 1, cells := 0, slots := 0, locals := 23 })).room s m (#[.ref (ad 0), .int a1]) below meth c H locs 0 0 (MQ below (va_Qv (fun (_ : Unit) => True) (fun (_ : Unit) t => wAt (dC, dI) A (wG (cM cy ad) ad 40 σ9) t) A) (#[.ref (ad 0), .int a1]) s 0 0 A) (F0 m 0 ls []) from HH s.heap [] ls h hP hD hS hl
  have w19 : ∀ (σ : S2)  (H : Heap) (locs : List Loc) (ls : Array Slot), fX12_begins_19 σ = some (r0, σ9) → va_P (dC, dI) vwCl (wG (cM cy ad) ad 40 σ) H → va_D A (wG (cM cy ad) ad 40 σ) → va_S A s.heap H locs → lv_has ls 2 [(0, .ref (ad 0))] → W p l e (headSpec wsX12_begins ({ frames := 1, cells := 0, slots := 0, locals := 23 })).room s m (#[.ref (ad 0), .int a1]) below meth c H locs 0 0 (MQ below (va_Qv (fun (_ : Unit) => True) (fun (_ : Unit) t => wAt (dC, dI) A (wG (cM cy ad) ad 40 σ9) t) A) (#[.ref (ad 0), .int a1]) s 0 0 A) (F0 m 19 ls []) := by
    intro σ H locs ls h hP hD hS hl
    unfold fX12_begins_19 at h
    refine lv_aload_n hx hb dX12_begins_19 rfl (lv_at hl 0 rfl) ?_
    refine lv_dup hx hb dX12_begins_20 rfl ?_
    refine ux_get (D := (dC, dI)) (ci := 12) (v := .int (σ.1 0 38)) (C := RX12) (T := TX12) (M := 59) (fs := (oM ad (σ.1 0))) hx hb hts (fun _ h9 => List.mem_cons_of_mem _ (List.mem_append_right _ h9)) hown hK hP 0 (Nat.le_of_ble_eq_true rfl) rfl rfl 38 (by decide) (hts (.fieldLink RX12 334 "SeatsRoundModel" "bodies" "I") (List.mem_of_getElem? (i := 1) rfl)) (fun _ h9 => h9) rfl dX12_begins_21 ?_
    refine lv_iconst (v := 1) hx hb dX12_begins_24 (by decide) ?_
    refine lv_iadd hx hb dX12_begins_25 ?_
    refine ux_put (D := (dC, dI)) (ci := 12) (C := RX12) (T := TX12) (M := 59) (fs := (oM ad (σ.1 0))) hx hb hts (fun _ h9 => List.mem_cons_of_mem _ (List.mem_append_right _ h9)) tyX12 tyX12_ok nmX12 hown hK hP hD hS 0 (Nat.le_of_ble_eq_true rfl) rfl rfl 38 (by decide) (hts (.fieldLink RX12 334 "SeatsRoundModel" "bodies" "I") (List.mem_of_getElem? (i := 1) rfl)) (fun _ h9 => h9) rfl (tyX12_ok 38 (by decide)) rfl rfl (Nat.le_of_ble_eq_true rfl) (oM_set_38 _ _ _ _ _) h dX12_begins_26 (fun σ1 H locs h hP hD hS => ?_)
    exact ux_vret hx hb hr h hP hD hS hlocks dX12_begins_29
  have w0 : ∀ (σ : S2) (x1 : Int32) (H : Heap) (locs : List Loc) (ls : Array Slot), fX12_begins_0 σ x1 = some (r0, σ9) → va_P (dC, dI) vwCl (wG (cM cy ad) ad 40 σ) H → va_D A (wG (cM cy ad) ad 40 σ) → va_S A s.heap H locs → lv_has ls 2 [(0, .ref (ad 0)), (1, .int x1)] → W p l e (headSpec wsX12_begins ({ frames := 1, cells := 0, slots := 0, locals := 23 })).room s m (#[.ref (ad 0), .int a1]) below meth c H locs 0 0 (MQ below (va_Qv (fun (_ : Unit) => True) (fun (_ : Unit) t => wAt (dC, dI) A (wG (cM cy ad) ad 40 σ9) t) A) (#[.ref (ad 0), .int a1]) s 0 0 A) (F0 m 0 ls []) := by
    intro σ x1 H locs ls h hP hD hS hl
    unfold fX12_begins_0 at h
    refine lv_aload_n hx hb dX12_begins_0 rfl (lv_at hl 0 rfl) ?_
    refine ux_get (D := (dC, dI)) (ci := 12) (v := .int (σ.1 0 38)) (C := RX12) (T := TX12) (M := 59) (fs := (oM ad (σ.1 0))) hx hb hts (fun _ h9 => List.mem_cons_of_mem _ (List.mem_append_right _ h9)) hown hK hP 0 (Nat.le_of_ble_eq_true rfl) rfl rfl 38 (by decide) (hts (.fieldLink RX12 334 "SeatsRoundModel" "bodies" "I") (List.mem_of_getElem? (i := 1) rfl)) (fun _ h9 => h9) rfl dX12_begins_1 ?_
    refine lv_bipush (v := 24) hx hb dX12_begins_4 (by decide) ?_
    refine lv_icmp_ge (tgt := 19) hx hb dX12_begins_6 (by decide) (fun hcd => ?_) (fun hcd => ?_)
    · have h := cdP hcd h
      exact w19 σ H locs ls h hP hD hS (lv_sub hl [0] rfl)
    · have h := cdN hcd h
      refine lv_aload_n hx hb dX12_begins_9 rfl (lv_at hl 0 rfl) ?_
      refine ux_get (D := (dC, dI)) (ci := 12) (v := .ref (ad 29)) (C := RX12) (T := TX12) (M := 59) (fs := (oM ad (σ.1 0))) hx hb hts (fun _ h9 => List.mem_cons_of_mem _ (List.mem_append_right _ h9)) hown hK hP 0 (Nat.le_of_ble_eq_true rfl) rfl rfl 37 (by decide) (hts (.fieldLink RX12 99 "SeatsRoundModel" "trace" "[I") (List.mem_of_getElem? (i := 2) rfl)) (fun _ h9 => h9) rfl dX12_begins_10 ?_
      refine lv_aload_n hx hb dX12_begins_13 rfl (lv_at hl 0 rfl) ?_
      refine ux_get (D := (dC, dI)) (ci := 12) (v := .int (σ.1 0 38)) (C := RX12) (T := TX12) (M := 59) (fs := (oM ad (σ.1 0))) hx hb hts (fun _ h9 => List.mem_cons_of_mem _ (List.mem_append_right _ h9)) hown hK hP 0 (Nat.le_of_ble_eq_true rfl) rfl rfl 38 (by decide) (hts (.fieldLink RX12 334 "SeatsRoundModel" "bodies" "I") (List.mem_of_getElem? (i := 1) rfl)) (fun _ h9 => h9) rfl dX12_begins_14 ?_
      refine lv_iload_n hx hb dX12_begins_17 rfl (lv_at hl 1 rfl) ?_
      refine ux_iast hx hb hK hP hD hS 29 0 (Nat.le_of_ble_eq_true rfl) (fun _ => (cM_29 _ _ _ _)) rfl h dX12_begins_18 (fun σ2 H locs h hP hD hS => ?_)
      exact w19 σ2 H locs ls h hP hD hS (lv_sub hl [0] rfl)
  intro H locs ls h hP hD hS hl
  exact w0 σ a1 H locs ls h hP hD hS (lv_sub hl [0, 1] rfl)

set_option maxHeartbeats 4000000 in
set_option maxRecDepth 100000 in
theorem tX12_aboveOf (l : Launch) (dC : Nat → ClassId) (dI : Nat → Nat → Nat) (cy : Nat → ClassId) (ad : Nat → Nat) (σ : S2) (a0 : Int32) (sz : Nat) (r0 : Int32) (h : fX12_aboveOf σ a0 = some r0) : Met l yX12_aboveOf wsX12_aboveOf ({ frames := 1, cells := 0, slots := 0, locals := 23 }) (va_Pc [.int a0] (wPre (dC, dI) cy (wG (cM cy ad) ad 40 σ) sz)) (va_Qi (fun (r : Int32) (_ : Unit) => r = r0) (fun (_ : Unit) t => wAt (dC, dI) (va_A (wG (cM cy ad) ad 40 σ) sz) (wG (cM cy ad) ad 40 σ) t) (va_A (wG (cM cy ad) ad 40 σ) sz)) 0 0 (va_A (wG (cM cy ad) ad 40 σ) sz) := by
  refine Met.ofW (cc := cX12_aboveOf) (maxL := 1) (ret := (some .int)) (by decide) rfl ?_
  intro p e s m args below meth c s₁ B hml hv
  obtain ⟨rfl, hsz, hP, hK, hD0, hN⟩ := hv
  have hx := B.exec
  have hb := B.bytes
  have hr := B.returns
  have hts := atoms_spec (ws := wsX12_aboveOf) B.pre
  have hown : s.vm.findClass RX12 = some m.cls := findClass_of_methodNamed B.named
  have hlocks := B.notSynchronized
  subst hsz
  have hD := hD0.self (sz := s.heap.size)
  generalize hAe : va_A (wG (cM cy ad) ad 40 σ) s.heap.size = A at hD ⊢
  have hA : ∀ q : Nat, s.heap.size ≤ q → A q := fun q h => by rw [← hAe]; exact Or.inr h
  have hS : va_S A s.heap s.heap [] := va_S.rf
  have hl := lv_entry ([.int a0]) (n := 1) (Nat.le_of_ble_eq_true rfl)
  rw [lg_entry_eq]
  generalize (lg_sl ([.int a0]) ++ List.replicate (1 - (lg_sl ([.int a0])).length) Slot.unset).toArray = ls at hl ⊢
  have hl : lv_has ls 1 [(0, .int a0)] := hl
  unfold fX12_aboveOf at h
  clear hAe hD0
  suffices HH : ∀ (H : Heap) (locs : List Loc) (ls : Array Slot), fX12_aboveOf_0 σ a0 = some r0 → va_P (dC, dI) vwCl (wG (cM cy ad) ad 40 σ) H → va_D A (wG (cM cy ad) ad 40 σ) → va_S A s.heap H locs → lv_has ls 1 [(0, .int a0)] → W p l e (headSpec wsX12_aboveOf ({ frames := 1, cells := 0, slots := 0, locals := 23 })).room s m (#[.int a0]) below meth c H locs 0 0 (MQ below (va_Qi (fun (r : Int32) (_ : Unit) => r = r0) (fun (_ : Unit) t => wAt (dC, dI) A (wG (cM cy ad) ad 40 σ) t) A) (#[.int a0]) s 0 0 A) (F0 m 0 ls []) from HH s.heap [] ls h hP hD hS hl
  have w0 : ∀ (σ : S2) (x0 : Int32) (H : Heap) (locs : List Loc) (ls : Array Slot), fX12_aboveOf_0 σ x0 = some r0 → va_P (dC, dI) vwCl (wG (cM cy ad) ad 40 σ) H → va_D A (wG (cM cy ad) ad 40 σ) → va_S A s.heap H locs → lv_has ls 1 [(0, .int x0)] → W p l e (headSpec wsX12_aboveOf ({ frames := 1, cells := 0, slots := 0, locals := 23 })).room s m (#[.int a0]) below meth c H locs 0 0 (MQ below (va_Qi (fun (r : Int32) (_ : Unit) => r = r0) (fun (_ : Unit) t => wAt (dC, dI) A (wG (cM cy ad) ad 40 σ) t) A) (#[.int a0]) s 0 0 A) (F0 m 0 ls []) := by
    intro σ x0 H locs ls h hP hD hS hl
    unfold fX12_aboveOf_0 at h
    refine lv_iload_n hx hb dX12_aboveOf_0 rfl (lv_at hl 0 rfl) ?_
    refine lv_bipush (v := 6) hx hb dX12_aboveOf_1 (by decide) ?_
    refine lv_icmp_ne (tgt := 10) hx hb dX12_aboveOf_3 (by decide) (fun hcd => ?_) (fun hcd => ?_)
    · have h := cdN hcd h
      refine lv_iconst (v := 0) hx hb dX12_aboveOf_10 (by decide) ?_
      exact ux_iretP hx hb hr h hP hD hS hlocks dX12_aboveOf_11
    · have h := cdP hcd h
      refine lv_iconst (v := 1) hx hb dX12_aboveOf_6 (by decide) ?_
      refine lv_goto (tgt := 11) hx hb dX12_aboveOf_7 (by decide) ?_
      exact ux_iretP hx hb hr h hP hD hS hlocks dX12_aboveOf_11
  intro H locs ls h hP hD hS hl
  exact w0 σ a0 H locs ls h hP hD hS (lv_sub hl [0] rfl)

set_option maxHeartbeats 4000000 in
set_option maxRecDepth 100000 in
theorem uX12_findsFrom (l : Launch) (dC : Nat → ClassId) (dI : Nat → Nat → Nat) (cy : Nat → ClassId) (ad : Nat → Nat) (d : Nat) (qX12_findsFrom : S2 → Int32 → Int32 → Int32 → Option (Int32 × S2)) (hqX12_findsFrom : ∀ (σ : S2) (a1 : Int32) (a2 : Int32) (a3 : Int32) (sz : Nat) (r0 : Int32) (σ9 : S2), qX12_findsFrom σ a1 a2 a3 = some (r0, σ9) → Met l yX12_findsFrom wsX12_findsFrom ({ frames := 2 + d, cells := 0, slots := 0, locals := 44 + 23 * d }) (va_Pc [.ref (ad 0), .int a1, .int a2, .int a3] (wPre (dC, dI) cy (wG (cM cy ad) ad 40 σ) sz)) (va_Qi (fun (r : Int32) (_ : Unit) => r = r0) (fun (_ : Unit) t => wAt (dC, dI) (va_A (wG (cM cy ad) ad 40 σ) sz) (wG (cM cy ad) ad 40 σ9) t) (va_A (wG (cM cy ad) ad 40 σ) sz)) 0 0 (va_A (wG (cM cy ad) ad 40 σ) sz)) (σ : S2) (a1 : Int32) (a2 : Int32) (a3 : Int32) (sz : Nat) (r0 : Int32) (σ9 : S2) (h : eX12_findsFrom qX12_findsFrom σ a1 a2 a3 = some (r0, σ9)) : Met l yX12_findsFrom wsX12_findsFrom ({ frames := 2 + (d + 1), cells := 0, slots := 0, locals := 44 + 23 * (d + 1) }) (va_Pc [.ref (ad 0), .int a1, .int a2, .int a3] (wPre (dC, dI) cy (wG (cM cy ad) ad 40 σ) sz)) (va_Qi (fun (r : Int32) (_ : Unit) => r = r0) (fun (_ : Unit) t => wAt (dC, dI) (va_A (wG (cM cy ad) ad 40 σ) sz) (wG (cM cy ad) ad 40 σ9) t) (va_A (wG (cM cy ad) ad 40 σ) sz)) 0 0 (va_A (wG (cM cy ad) ad 40 σ) sz) := by
  refine Met.ofW (cc := cX12_findsFrom) (maxL := 4) (ret := (some .int)) (by decide) rfl ?_
  intro p e s m args below meth c s₁ B hml hv
  obtain ⟨rfl, hsz, hP, hK, hD0, hN⟩ := hv
  have hx := B.exec
  have hb := B.bytes
  have hr := B.returns
  have hts := atoms_spec (ws := wsX12_findsFrom) B.pre
  have hown : s.vm.findClass RX12 = some m.cls := findClass_of_methodNamed B.named
  have hlocks := B.notSynchronized
  subst hsz
  have hD := hD0.self (sz := s.heap.size)
  generalize hAe : va_A (wG (cM cy ad) ad 40 σ) s.heap.size = A at hD ⊢
  have hA : ∀ q : Nat, s.heap.size ≤ q → A q := fun q h => by rw [← hAe]; exact Or.inr h
  have hS : va_S A s.heap s.heap [] := va_S.rf
  have hl := lv_entry ([.ref (ad 0), .int a1, .int a2, .int a3]) (n := 4) (Nat.le_of_ble_eq_true rfl)
  rw [lg_entry_eq]
  generalize (lg_sl ([.ref (ad 0), .int a1, .int a2, .int a3]) ++ List.replicate (4 - (lg_sl ([.ref (ad 0), .int a1, .int a2, .int a3])).length) Slot.unset).toArray = ls at hl ⊢
  have hl : lv_has ls 4 [(0, .ref (ad 0)), (1, .int a1), (2, .int a2), (3, .int a3)] := hl
  unfold eX12_findsFrom at h
  clear hAe hD0
  suffices HH : ∀ (H : Heap) (locs : List Loc) (ls : Array Slot), fX12_findsFrom_0 qX12_findsFrom σ a1 a2 a3 = some (r0, σ9) → va_P (dC, dI) vwCl (wG (cM cy ad) ad 40 σ) H → va_D A (wG (cM cy ad) ad 40 σ) → va_S A s.heap H locs → lv_has ls 4 [(0, .ref (ad 0)), (1, .int a1), (2, .int a2), (3, .int a3)] → W p l e (headSpec wsX12_findsFrom ({ frames := 2 + (d + 1), cells := 0, slots := 0, locals := 44 + 23 * (d + 1) })).room s m (#[.ref (ad 0), .int a1, .int a2, .int a3]) below meth c H locs 0 0 (MQ below (va_Qi (fun (r : Int32) (_ : Unit) => r = r0) (fun (_ : Unit) t => wAt (dC, dI) A (wG (cM cy ad) ad 40 σ9) t) A) (#[.ref (ad 0), .int a1, .int a2, .int a3]) s 0 0 A) (F0 m 0 ls []) from HH s.heap [] ls h hP hD hS hl
  have w0 : ∀ (σ : S2) (x1 : Int32) (x2 : Int32) (x3 : Int32) (H : Heap) (locs : List Loc) (ls : Array Slot), fX12_findsFrom_0 qX12_findsFrom σ x1 x2 x3 = some (r0, σ9) → va_P (dC, dI) vwCl (wG (cM cy ad) ad 40 σ) H → va_D A (wG (cM cy ad) ad 40 σ) → va_S A s.heap H locs → lv_has ls 4 [(0, .ref (ad 0)), (1, .int x1), (2, .int x2), (3, .int x3)] → W p l e (headSpec wsX12_findsFrom ({ frames := 2 + (d + 1), cells := 0, slots := 0, locals := 44 + 23 * (d + 1) })).room s m (#[.ref (ad 0), .int a1, .int a2, .int a3]) below meth c H locs 0 0 (MQ below (va_Qi (fun (r : Int32) (_ : Unit) => r = r0) (fun (_ : Unit) t => wAt (dC, dI) A (wG (cM cy ad) ad 40 σ9) t) A) (#[.ref (ad 0), .int a1, .int a2, .int a3]) s 0 0 A) (F0 m 0 ls []) := by
    intro σ x1 x2 x3 H locs ls h hP hD hS hl
    unfold fX12_findsFrom_0 at h
    refine lv_iload_n hx hb dX12_findsFrom_0 rfl (lv_at hl 2 rfl) ?_
    by_cases hcd1 : x2 = 0
    · have h := cdP hcd1 h
      refine lv_tableIn (off := 43) (tgt := 44) hx hb dX12_findsFrom_1 (by rw [hcd1]; decide) (by rw [hcd1]; decide) (by rw [hcd1]; rfl) (by decide) ?_
      refine lv_aload_n hx hb dX12_findsFrom_44 rfl (lv_at hl 0 rfl) ?_
      refine lv_iconst (v := 1) hx hb dX12_findsFrom_45 (by decide) ?_
      obtain ⟨r2, σ3, hf4, h⟩ := bsS h
      refine ux_callv (va_runV (As := [.int 1]) (rest := []) ⟨hx, hb, hml, hown, hts⟩ (tX12_begins l dC dI cy ad σ 1 H.size r2 σ3 hf4) (cwV 1 hts gX12_findsFrom_X12_begins rfl rfl rfl (by decide +kernel) ⟨by show 1 + 1 ≤ 2 + (d + 1); omega, by show 8 + (2 + 11) + 23 ≤ 44 + 23 * (d + 1); omega⟩) (wp_V hK hN hP hD (va_recv hK hP (ci := 12) (q0 := 0) rfl (wG_of (Nat.le_of_ble_eq_true rfl) rfl))) rfl rfl hl.1 rfl (lv_room (Nat.le_of_ble_eq_true rfl)) dX12_findsFrom_46 ⟨Nat.le_of_ble_eq_true rfl, Nat.le_of_ble_eq_true rfl⟩) hD hS hA (fun H locs hP hD hS => ?_)
      refine lv_iload_n hx hb dX12_findsFrom_49 rfl (lv_at hl 3 rfl) ?_
      refine lv_iload_n hx hb dX12_findsFrom_50 rfl (lv_at hl 1 rfl) ?_
      refine lv_iadd hx hb dX12_findsFrom_51 ?_
      exact ux_iret hx hb hr h hP hD hS hlocks dX12_findsFrom_52
    · have h := cdN hcd1 h
      have ihcd1 : ¬ x2.toInt = (0 : Int) := fun h9 => hcd1 (Int32.toInt_inj.mp h9)
      by_cases hcd5 : x2 = 1
      · have h := cdP hcd5 h
        refine lv_tableIn (off := 52) (tgt := 53) hx hb dX12_findsFrom_1 (by rw [hcd5]; decide) (by rw [hcd5]; decide) (by rw [hcd5]; rfl) (by decide) ?_
        refine lv_aload_n hx hb dX12_findsFrom_53 rfl (lv_at hl 0 rfl) ?_
        refine lv_bipush (v := 20) hx hb dX12_findsFrom_54 (by decide) ?_
        obtain ⟨r6, σ7, hf8, h⟩ := bsS h
        refine ux_callv (va_runV (As := [.int 20]) (rest := []) ⟨hx, hb, hml, hown, hts⟩ (tX12_begins l dC dI cy ad σ 20 H.size r6 σ7 hf8) (cwV 1 hts gX12_findsFrom_X12_begins rfl rfl rfl (by decide +kernel) ⟨by show 1 + 1 ≤ 2 + (d + 1); omega, by show 8 + (2 + 11) + 23 ≤ 44 + 23 * (d + 1); omega⟩) (wp_V hK hN hP hD (va_recv hK hP (ci := 12) (q0 := 0) rfl (wG_of (Nat.le_of_ble_eq_true rfl) rfl))) rfl rfl hl.1 rfl (lv_room (Nat.le_of_ble_eq_true rfl)) dX12_findsFrom_56 ⟨Nat.le_of_ble_eq_true rfl, Nat.le_of_ble_eq_true rfl⟩) hD hS hA (fun H locs hP hD hS => ?_)
        refine lv_aload_n hx hb dX12_findsFrom_59 rfl (lv_at hl 0 rfl) ?_
        refine lv_iload_n hx hb dX12_findsFrom_60 rfl (lv_at hl 1 rfl) ?_
        refine lv_iconst (v := 0) hx hb dX12_findsFrom_61 (by decide) ?_
        refine lv_iload_n hx hb dX12_findsFrom_62 rfl (lv_at hl 3 rfl) ?_
        obtain ⟨r9, σ10, hf11, h⟩ := bsS h
        refine ux_calli (va_runV (As := [.int x1, .int 0, .int x3]) (rest := []) ⟨hx, hb, hml, hown, hts⟩ (hqX12_findsFrom σ7 x1 0 x3 H.size r9 σ10 hf11) (cwV 3 hts gX12_findsFrom_X12_findsFrom rfl rfl rfl (by decide +kernel) ⟨by show (2 + d) + 1 ≤ 2 + (d + 1); omega, by show 8 + (4 + 11) + (44 + 23 * d) ≤ 44 + 23 * (d + 1); omega⟩) (wp_V hK hN hP hD (va_recv hK hP (ci := 12) (q0 := 0) rfl (wG_of (Nat.le_of_ble_eq_true rfl) rfl))) rfl rfl hl.1 rfl (lv_room (Nat.le_of_ble_eq_true rfl)) dX12_findsFrom_63 ⟨Nat.le_of_ble_eq_true rfl, Nat.le_of_ble_eq_true rfl⟩) hD hS hA (fun H locs hP hD hS => ?_)
        refine lv_aload_n hx hb dX12_findsFrom_66 rfl (lv_at hl 0 rfl) ?_
        refine ux_get (D := (dC, dI)) (ci := 12) (v := .ref (ad 4)) (C := RX12) (T := TX12) (M := 59) (fs := (oM ad (σ10.1 0))) hx hb hts (fun _ h9 => List.mem_cons_of_mem _ (List.mem_append_right _ h9)) hown hK hP 0 (Nat.le_of_ble_eq_true rfl) rfl rfl 5 (by decide) (hts (.fieldLink RX12 19 "SeatsRoundModel" "strength" "[I") (List.mem_of_getElem? (i := 1) rfl)) (fun _ h9 => h9) rfl dX12_findsFrom_67 ?_
        refine lv_iload_n hx hb dX12_findsFrom_70 rfl (lv_at hl 1 rfl) ?_
        refine ux_iald hx hb hK hP 4 0 (Nat.le_of_ble_eq_true rfl) (cM_4 _ _ _ _) rfl h dX12_findsFrom_71 (fun v12 h => ?_)
        refine lv_iadd hx hb dX12_findsFrom_72 ?_
        exact ux_iret hx hb hr h hP hD hS hlocks dX12_findsFrom_73
      · have h := cdN hcd5 h
        have ihcd5 : ¬ x2.toInt = (1 : Int) := fun h9 => hcd5 (Int32.toInt_inj.mp h9)
        by_cases hcd13 : x2 = 2
        · have h := cdP hcd13 h
          refine lv_tableIn (off := 105) (tgt := 106) hx hb dX12_findsFrom_1 (by rw [hcd13]; decide) (by rw [hcd13]; decide) (by rw [hcd13]; rfl) (by decide) ?_
          refine lv_aload_n hx hb dX12_findsFrom_106 rfl (lv_at hl 0 rfl) ?_
          refine lv_iload_n hx hb dX12_findsFrom_107 rfl (lv_at hl 1 rfl) ?_
          refine lv_iload_n hx hb dX12_findsFrom_108 rfl (lv_at hl 2 rfl) ?_
          obtain ⟨r14, hf15, h⟩ := biS h
          refine ux_calli (va_runS (As := [.int x2]) (rest := [.int x1, .ref (ad 0)]) ⟨hx, hb, hml, hown, hts⟩ (tX12_aboveOf l dC dI cy ad σ x2 H.size r14 hf15) (va_cwS 1 hts gX12_findsFrom_X12_aboveOf rfl rfl rfl (by decide +kernel) ⟨by show 1 + 1 ≤ 2 + (d + 1); omega, by show 8 + (1 + 11) + 23 ≤ 44 + 23 * (d + 1); omega⟩) (wp_S hK hN hP hD) rfl rfl hl.1 rfl (lv_room (Nat.le_of_ble_eq_true rfl)) dX12_findsFrom_109 ⟨Nat.le_of_ble_eq_true rfl, Nat.le_of_ble_eq_true rfl⟩) hD hS hA (fun H locs hP hD hS => ?_)
          refine lv_iload_n hx hb dX12_findsFrom_112 rfl (lv_at hl 3 rfl) ?_
          obtain ⟨r16, σ17, hf18, h⟩ := bsS h
          refine ux_calli (va_runV (As := [.int x1, .int r14, .int x3]) (rest := []) ⟨hx, hb, hml, hown, hts⟩ (hqX12_findsFrom σ x1 r14 x3 H.size r16 σ17 hf18) (cwV 3 hts gX12_findsFrom_X12_findsFrom rfl rfl rfl (by decide +kernel) ⟨by show (2 + d) + 1 ≤ 2 + (d + 1); omega, by show 8 + (4 + 11) + (44 + 23 * d) ≤ 44 + 23 * (d + 1); omega⟩) (wp_V hK hN hP hD (va_recv hK hP (ci := 12) (q0 := 0) rfl (wG_of (Nat.le_of_ble_eq_true rfl) rfl))) rfl rfl hl.1 rfl (lv_room (Nat.le_of_ble_eq_true rfl)) dX12_findsFrom_113 ⟨Nat.le_of_ble_eq_true rfl, Nat.le_of_ble_eq_true rfl⟩) hD hS hA (fun H locs hP hD hS => ?_)
          exact ux_iret hx hb hr h hP hD hS hlocks dX12_findsFrom_116
        · have h := cdN hcd13 h
          have ihcd13 : ¬ x2.toInt = (2 : Int) := fun h9 => hcd13 (Int32.toInt_inj.mp h9)
          by_cases hcd19 : x2 = 3
          · have h := cdP hcd19 h
            refine lv_tableIn (off := 105) (tgt := 106) hx hb dX12_findsFrom_1 (by rw [hcd19]; decide) (by rw [hcd19]; decide) (by rw [hcd19]; rfl) (by decide) ?_
            refine lv_aload_n hx hb dX12_findsFrom_106 rfl (lv_at hl 0 rfl) ?_
            refine lv_iload_n hx hb dX12_findsFrom_107 rfl (lv_at hl 1 rfl) ?_
            refine lv_iload_n hx hb dX12_findsFrom_108 rfl (lv_at hl 2 rfl) ?_
            obtain ⟨r20, hf21, h⟩ := biS h
            refine ux_calli (va_runS (As := [.int x2]) (rest := [.int x1, .ref (ad 0)]) ⟨hx, hb, hml, hown, hts⟩ (tX12_aboveOf l dC dI cy ad σ x2 H.size r20 hf21) (va_cwS 1 hts gX12_findsFrom_X12_aboveOf rfl rfl rfl (by decide +kernel) ⟨by show 1 + 1 ≤ 2 + (d + 1); omega, by show 8 + (1 + 11) + 23 ≤ 44 + 23 * (d + 1); omega⟩) (wp_S hK hN hP hD) rfl rfl hl.1 rfl (lv_room (Nat.le_of_ble_eq_true rfl)) dX12_findsFrom_109 ⟨Nat.le_of_ble_eq_true rfl, Nat.le_of_ble_eq_true rfl⟩) hD hS hA (fun H locs hP hD hS => ?_)
            refine lv_iload_n hx hb dX12_findsFrom_112 rfl (lv_at hl 3 rfl) ?_
            obtain ⟨r22, σ23, hf24, h⟩ := bsS h
            refine ux_calli (va_runV (As := [.int x1, .int r20, .int x3]) (rest := []) ⟨hx, hb, hml, hown, hts⟩ (hqX12_findsFrom σ x1 r20 x3 H.size r22 σ23 hf24) (cwV 3 hts gX12_findsFrom_X12_findsFrom rfl rfl rfl (by decide +kernel) ⟨by show (2 + d) + 1 ≤ 2 + (d + 1); omega, by show 8 + (4 + 11) + (44 + 23 * d) ≤ 44 + 23 * (d + 1); omega⟩) (wp_V hK hN hP hD (va_recv hK hP (ci := 12) (q0 := 0) rfl (wG_of (Nat.le_of_ble_eq_true rfl) rfl))) rfl rfl hl.1 rfl (lv_room (Nat.le_of_ble_eq_true rfl)) dX12_findsFrom_113 ⟨Nat.le_of_ble_eq_true rfl, Nat.le_of_ble_eq_true rfl⟩) hD hS hA (fun H locs hP hD hS => ?_)
            exact ux_iret hx hb hr h hP hD hS hlocks dX12_findsFrom_116
          · have h := cdN hcd19 h
            have ihcd19 : ¬ x2.toInt = (3 : Int) := fun h9 => hcd19 (Int32.toInt_inj.mp h9)
            by_cases hcd25 : x2 = 4
            · have h := cdP hcd25 h
              refine lv_tableIn (off := 105) (tgt := 106) hx hb dX12_findsFrom_1 (by rw [hcd25]; decide) (by rw [hcd25]; decide) (by rw [hcd25]; rfl) (by decide) ?_
              refine lv_aload_n hx hb dX12_findsFrom_106 rfl (lv_at hl 0 rfl) ?_
              refine lv_iload_n hx hb dX12_findsFrom_107 rfl (lv_at hl 1 rfl) ?_
              refine lv_iload_n hx hb dX12_findsFrom_108 rfl (lv_at hl 2 rfl) ?_
              obtain ⟨r26, hf27, h⟩ := biS h
              refine ux_calli (va_runS (As := [.int x2]) (rest := [.int x1, .ref (ad 0)]) ⟨hx, hb, hml, hown, hts⟩ (tX12_aboveOf l dC dI cy ad σ x2 H.size r26 hf27) (va_cwS 1 hts gX12_findsFrom_X12_aboveOf rfl rfl rfl (by decide +kernel) ⟨by show 1 + 1 ≤ 2 + (d + 1); omega, by show 8 + (1 + 11) + 23 ≤ 44 + 23 * (d + 1); omega⟩) (wp_S hK hN hP hD) rfl rfl hl.1 rfl (lv_room (Nat.le_of_ble_eq_true rfl)) dX12_findsFrom_109 ⟨Nat.le_of_ble_eq_true rfl, Nat.le_of_ble_eq_true rfl⟩) hD hS hA (fun H locs hP hD hS => ?_)
              refine lv_iload_n hx hb dX12_findsFrom_112 rfl (lv_at hl 3 rfl) ?_
              obtain ⟨r28, σ29, hf30, h⟩ := bsS h
              refine ux_calli (va_runV (As := [.int x1, .int r26, .int x3]) (rest := []) ⟨hx, hb, hml, hown, hts⟩ (hqX12_findsFrom σ x1 r26 x3 H.size r28 σ29 hf30) (cwV 3 hts gX12_findsFrom_X12_findsFrom rfl rfl rfl (by decide +kernel) ⟨by show (2 + d) + 1 ≤ 2 + (d + 1); omega, by show 8 + (4 + 11) + (44 + 23 * d) ≤ 44 + 23 * (d + 1); omega⟩) (wp_V hK hN hP hD (va_recv hK hP (ci := 12) (q0 := 0) rfl (wG_of (Nat.le_of_ble_eq_true rfl) rfl))) rfl rfl hl.1 rfl (lv_room (Nat.le_of_ble_eq_true rfl)) dX12_findsFrom_113 ⟨Nat.le_of_ble_eq_true rfl, Nat.le_of_ble_eq_true rfl⟩) hD hS hA (fun H locs hP hD hS => ?_)
              exact ux_iret hx hb hr h hP hD hS hlocks dX12_findsFrom_116
            · have h := cdN hcd25 h
              have ihcd25 : ¬ x2.toInt = (4 : Int) := fun h9 => hcd25 (Int32.toInt_inj.mp h9)
              by_cases hcd31 : x2 = 5
              · have h := cdP hcd31 h
                refine lv_tableIn (off := 73) (tgt := 74) hx hb dX12_findsFrom_1 (by rw [hcd31]; decide) (by rw [hcd31]; decide) (by rw [hcd31]; rfl) (by decide) ?_
                refine lv_aload_n hx hb dX12_findsFrom_74 rfl (lv_at hl 0 rfl) ?_
                refine lv_bipush (v := 60) hx hb dX12_findsFrom_75 (by decide) ?_
                obtain ⟨r32, σ33, hf34, h⟩ := bsS h
                refine ux_callv (va_runV (As := [.int 60]) (rest := []) ⟨hx, hb, hml, hown, hts⟩ (tX12_begins l dC dI cy ad σ 60 H.size r32 σ33 hf34) (cwV 1 hts gX12_findsFrom_X12_begins rfl rfl rfl (by decide +kernel) ⟨by show 1 + 1 ≤ 2 + (d + 1); omega, by show 8 + (2 + 11) + 23 ≤ 44 + 23 * (d + 1); omega⟩) (wp_V hK hN hP hD (va_recv hK hP (ci := 12) (q0 := 0) rfl (wG_of (Nat.le_of_ble_eq_true rfl) rfl))) rfl rfl hl.1 rfl (lv_room (Nat.le_of_ble_eq_true rfl)) dX12_findsFrom_77 ⟨Nat.le_of_ble_eq_true rfl, Nat.le_of_ble_eq_true rfl⟩) hD hS hA (fun H locs hP hD hS => ?_)
                refine lv_aload_n hx hb dX12_findsFrom_80 rfl (lv_at hl 0 rfl) ?_
                refine lv_iload_n hx hb dX12_findsFrom_81 rfl (lv_at hl 1 rfl) ?_
                refine lv_iconst (v := 0) hx hb dX12_findsFrom_82 (by decide) ?_
                refine lv_iload_n hx hb dX12_findsFrom_83 rfl (lv_at hl 3 rfl) ?_
                refine lv_iconst (v := 1) hx hb dX12_findsFrom_84 (by decide) ?_
                refine lv_iadd hx hb dX12_findsFrom_85 ?_
                obtain ⟨r35, σ36, hf37, h⟩ := bsS h
                refine ux_calli (va_runV (As := [.int x1, .int 0, .int (x3 + 1)]) (rest := []) ⟨hx, hb, hml, hown, hts⟩ (hqX12_findsFrom σ33 x1 0 (x3 + 1) H.size r35 σ36 hf37) (cwV 3 hts gX12_findsFrom_X12_findsFrom rfl rfl rfl (by decide +kernel) ⟨by show (2 + d) + 1 ≤ 2 + (d + 1); omega, by show 8 + (4 + 11) + (44 + 23 * d) ≤ 44 + 23 * (d + 1); omega⟩) (wp_V hK hN hP hD (va_recv hK hP (ci := 12) (q0 := 0) rfl (wG_of (Nat.le_of_ble_eq_true rfl) rfl))) rfl rfl hl.1 rfl (lv_room (Nat.le_of_ble_eq_true rfl)) dX12_findsFrom_86 ⟨Nat.le_of_ble_eq_true rfl, Nat.le_of_ble_eq_true rfl⟩) hD hS hA (fun H locs hP hD hS => ?_)
                exact ux_iret hx hb hr h hP hD hS hlocks dX12_findsFrom_89
              · have h := cdN hcd31 h
                have ihcd31 : ¬ x2.toInt = (5 : Int) := fun h9 => hcd31 (Int32.toInt_inj.mp h9)
                by_cases hcd38 : x2 = 6
                · have h := cdP hcd38 h
                  refine lv_tableIn (off := 89) (tgt := 90) hx hb dX12_findsFrom_1 (by rw [hcd38]; decide) (by rw [hcd38]; decide) (by rw [hcd38]; rfl) (by decide) ?_
                  refine lv_aload_n hx hb dX12_findsFrom_90 rfl (lv_at hl 0 rfl) ?_
                  refine lv_bipush (v := 71) hx hb dX12_findsFrom_91 (by decide) ?_
                  obtain ⟨r39, σ40, hf41, h⟩ := bsS h
                  refine ux_callv (va_runV (As := [.int 71]) (rest := []) ⟨hx, hb, hml, hown, hts⟩ (tX12_begins l dC dI cy ad σ 71 H.size r39 σ40 hf41) (cwV 1 hts gX12_findsFrom_X12_begins rfl rfl rfl (by decide +kernel) ⟨by show 1 + 1 ≤ 2 + (d + 1); omega, by show 8 + (2 + 11) + 23 ≤ 44 + 23 * (d + 1); omega⟩) (wp_V hK hN hP hD (va_recv hK hP (ci := 12) (q0 := 0) rfl (wG_of (Nat.le_of_ble_eq_true rfl) rfl))) rfl rfl hl.1 rfl (lv_room (Nat.le_of_ble_eq_true rfl)) dX12_findsFrom_93 ⟨Nat.le_of_ble_eq_true rfl, Nat.le_of_ble_eq_true rfl⟩) hD hS hA (fun H locs hP hD hS => ?_)
                  refine lv_aload_n hx hb dX12_findsFrom_96 rfl (lv_at hl 0 rfl) ?_
                  refine lv_iload_n hx hb dX12_findsFrom_97 rfl (lv_at hl 1 rfl) ?_
                  refine lv_iconst (v := 1) hx hb dX12_findsFrom_98 (by decide) ?_
                  refine lv_iload_n hx hb dX12_findsFrom_99 rfl (lv_at hl 3 rfl) ?_
                  obtain ⟨r42, σ43, hf44, h⟩ := bsS h
                  refine ux_calli (va_runV (As := [.int x1, .int 1, .int x3]) (rest := []) ⟨hx, hb, hml, hown, hts⟩ (hqX12_findsFrom σ40 x1 1 x3 H.size r42 σ43 hf44) (cwV 3 hts gX12_findsFrom_X12_findsFrom rfl rfl rfl (by decide +kernel) ⟨by show (2 + d) + 1 ≤ 2 + (d + 1); omega, by show 8 + (4 + 11) + (44 + 23 * d) ≤ 44 + 23 * (d + 1); omega⟩) (wp_V hK hN hP hD (va_recv hK hP (ci := 12) (q0 := 0) rfl (wG_of (Nat.le_of_ble_eq_true rfl) rfl))) rfl rfl hl.1 rfl (lv_room (Nat.le_of_ble_eq_true rfl)) dX12_findsFrom_100 ⟨Nat.le_of_ble_eq_true rfl, Nat.le_of_ble_eq_true rfl⟩) hD hS hA (fun H locs hP hD hS => ?_)
                  refine lv_iconst (v := 2) hx hb dX12_findsFrom_103 (by decide) ?_
                  refine lv_imul hx hb dX12_findsFrom_104 ?_
                  exact ux_iret hx hb hr h hP hD hS hlocks dX12_findsFrom_105
                · have h := cdN hcd38 h
                  have ihcd38 : ¬ x2.toInt = (6 : Int) := fun h9 => hcd38 (Int32.toInt_inj.mp h9)
                  refine lv_tableOut (tgt := 106) hx hb dX12_findsFrom_1 (by omega) (by decide) ?_
                  refine lv_aload_n hx hb dX12_findsFrom_106 rfl (lv_at hl 0 rfl) ?_
                  refine lv_iload_n hx hb dX12_findsFrom_107 rfl (lv_at hl 1 rfl) ?_
                  refine lv_iload_n hx hb dX12_findsFrom_108 rfl (lv_at hl 2 rfl) ?_
                  obtain ⟨r45, hf46, h⟩ := biS h
                  refine ux_calli (va_runS (As := [.int x2]) (rest := [.int x1, .ref (ad 0)]) ⟨hx, hb, hml, hown, hts⟩ (tX12_aboveOf l dC dI cy ad σ x2 H.size r45 hf46) (va_cwS 1 hts gX12_findsFrom_X12_aboveOf rfl rfl rfl (by decide +kernel) ⟨by show 1 + 1 ≤ 2 + (d + 1); omega, by show 8 + (1 + 11) + 23 ≤ 44 + 23 * (d + 1); omega⟩) (wp_S hK hN hP hD) rfl rfl hl.1 rfl (lv_room (Nat.le_of_ble_eq_true rfl)) dX12_findsFrom_109 ⟨Nat.le_of_ble_eq_true rfl, Nat.le_of_ble_eq_true rfl⟩) hD hS hA (fun H locs hP hD hS => ?_)
                  refine lv_iload_n hx hb dX12_findsFrom_112 rfl (lv_at hl 3 rfl) ?_
                  obtain ⟨r47, σ48, hf49, h⟩ := bsS h
                  refine ux_calli (va_runV (As := [.int x1, .int r45, .int x3]) (rest := []) ⟨hx, hb, hml, hown, hts⟩ (hqX12_findsFrom σ x1 r45 x3 H.size r47 σ48 hf49) (cwV 3 hts gX12_findsFrom_X12_findsFrom rfl rfl rfl (by decide +kernel) ⟨by show (2 + d) + 1 ≤ 2 + (d + 1); omega, by show 8 + (4 + 11) + (44 + 23 * d) ≤ 44 + 23 * (d + 1); omega⟩) (wp_V hK hN hP hD (va_recv hK hP (ci := 12) (q0 := 0) rfl (wG_of (Nat.le_of_ble_eq_true rfl) rfl))) rfl rfl hl.1 rfl (lv_room (Nat.le_of_ble_eq_true rfl)) dX12_findsFrom_113 ⟨Nat.le_of_ble_eq_true rfl, Nat.le_of_ble_eq_true rfl⟩) hD hS hA (fun H locs hP hD hS => ?_)
                  exact ux_iret hx hb hr h hP hD hS hlocks dX12_findsFrom_116
  intro H locs ls h hP hD hS hl
  exact w0 σ a1 a2 a3 H locs ls h hP hD hS (lv_sub hl [0, 1, 2, 3] rfl)

set_option maxRecDepth 100000 in
theorem gGX12_findsFrom (l : Launch) (dC : Nat → ClassId) (dI : Nat → Nat → Nat) (cy : Nat → ClassId) (ad : Nat → Nat) (d : Nat) : (∀ (σ : S2) (a1 : Int32) (a2 : Int32) (a3 : Int32) (sz : Nat) (r0 : Int32) (σ9 : S2), GX12_findsFrom d 0 σ a1 a2 a3 = some (r0, σ9) → Met l yX12_findsFrom wsX12_findsFrom ({ frames := 2 + d, cells := 0, slots := 0, locals := 44 + 23 * d }) (va_Pc [.ref (ad 0), .int a1, .int a2, .int a3] (wPre (dC, dI) cy (wG (cM cy ad) ad 40 σ) sz)) (va_Qi (fun (r : Int32) (_ : Unit) => r = r0) (fun (_ : Unit) t => wAt (dC, dI) (va_A (wG (cM cy ad) ad 40 σ) sz) (wG (cM cy ad) ad 40 σ9) t) (va_A (wG (cM cy ad) ad 40 σ) sz)) 0 0 (va_A (wG (cM cy ad) ad 40 σ) sz)) := by
  induction d with
  | zero => exact (by intros; contradiction)
  | succ d ih =>
    exact (fun σ a1 a2 a3 sz r0 σ9 h => uX12_findsFrom l dC dI cy ad d _ (ih) σ a1 a2 a3 sz r0 σ9 h)

theorem tX12_findsFrom (l : Launch) (dC : Nat → ClassId) (dI : Nat → Nat → Nat) (cy : Nat → ClassId) (ad : Nat → Nat) : ∀ (σ : S2) (a1 : Int32) (a2 : Int32) (a3 : Int32) (sz : Nat) (r0 : Int32) (σ9 : S2), fX12_findsFrom σ a1 a2 a3 = some (r0, σ9) → Met l yX12_findsFrom wsX12_findsFrom ({ frames := 26, cells := 0, slots := 0, locals := 596 }) (va_Pc [.ref (ad 0), .int a1, .int a2, .int a3] (wPre (dC, dI) cy (wG (cM cy ad) ad 40 σ) sz)) (va_Qi (fun (r : Int32) (_ : Unit) => r = r0) (fun (_ : Unit) t => wAt (dC, dI) (va_A (wG (cM cy ad) ad 40 σ) sz) (wG (cM cy ad) ad 40 σ9) t) (va_A (wG (cM cy ad) ad 40 σ) sz)) 0 0 (va_A (wG (cM cy ad) ad 40 σ) sz) := (gGX12_findsFrom l dC dI cy ad 24)

set_option maxHeartbeats 4000000 in
set_option maxRecDepth 100000 in
theorem uX12_movesFrom (l : Launch) (dC : Nat → ClassId) (dI : Nat → Nat → Nat) (cy : Nat → ClassId) (ad : Nat → Nat) (d : Nat) (qX12_movesFrom : S2 → Int32 → Int32 → Int32 → Option (Int32 × S2)) (hqX12_movesFrom : ∀ (σ : S2) (a1 : Int32) (a2 : Int32) (a3 : Int32) (sz : Nat) (r0 : Int32) (σ9 : S2), qX12_movesFrom σ a1 a2 a3 = some (r0, σ9) → Met l yX12_movesFrom wsX12_movesFrom ({ frames := 27 + d, cells := 0, slots := 0, locals := 619 + 24 * d }) (va_Pc [.ref (ad 0), .int a1, .int a2, .int a3] (wPre (dC, dI) cy (wG (cM cy ad) ad 40 σ) sz)) (va_Qi (fun (r : Int32) (_ : Unit) => r = r0) (fun (_ : Unit) t => wAt (dC, dI) (va_A (wG (cM cy ad) ad 40 σ) sz) (wG (cM cy ad) ad 40 σ9) t) (va_A (wG (cM cy ad) ad 40 σ) sz)) 0 0 (va_A (wG (cM cy ad) ad 40 σ) sz)) (σ : S2) (a1 : Int32) (a2 : Int32) (a3 : Int32) (sz : Nat) (r0 : Int32) (σ9 : S2) (h : eX12_movesFrom qX12_movesFrom σ a1 a2 a3 = some (r0, σ9)) : Met l yX12_movesFrom wsX12_movesFrom ({ frames := 27 + (d + 1), cells := 0, slots := 0, locals := 619 + 24 * (d + 1) }) (va_Pc [.ref (ad 0), .int a1, .int a2, .int a3] (wPre (dC, dI) cy (wG (cM cy ad) ad 40 σ) sz)) (va_Qi (fun (r : Int32) (_ : Unit) => r = r0) (fun (_ : Unit) t => wAt (dC, dI) (va_A (wG (cM cy ad) ad 40 σ) sz) (wG (cM cy ad) ad 40 σ9) t) (va_A (wG (cM cy ad) ad 40 σ) sz)) 0 0 (va_A (wG (cM cy ad) ad 40 σ) sz) := by
  refine Met.ofW (cc := cX12_movesFrom) (maxL := 5) (ret := (some .int)) (by decide) rfl ?_
  intro p e s m args below meth c s₁ B hml hv
  obtain ⟨rfl, hsz, hP, hK, hD0, hN⟩ := hv
  have hx := B.exec
  have hb := B.bytes
  have hr := B.returns
  have hts := atoms_spec (ws := wsX12_movesFrom) B.pre
  have hown : s.vm.findClass RX12 = some m.cls := findClass_of_methodNamed B.named
  have hlocks := B.notSynchronized
  subst hsz
  have hD := hD0.self (sz := s.heap.size)
  generalize hAe : va_A (wG (cM cy ad) ad 40 σ) s.heap.size = A at hD ⊢
  have hA : ∀ q : Nat, s.heap.size ≤ q → A q := fun q h => by rw [← hAe]; exact Or.inr h
  have hS : va_S A s.heap s.heap [] := va_S.rf
  have hl := lv_entry ([.ref (ad 0), .int a1, .int a2, .int a3]) (n := 5) (Nat.le_of_ble_eq_true rfl)
  rw [lg_entry_eq]
  generalize (lg_sl ([.ref (ad 0), .int a1, .int a2, .int a3]) ++ List.replicate (5 - (lg_sl ([.ref (ad 0), .int a1, .int a2, .int a3])).length) Slot.unset).toArray = ls at hl ⊢
  have hl : lv_has ls 5 [(0, .ref (ad 0)), (1, .int a1), (2, .int a2), (3, .int a3)] := hl
  unfold eX12_movesFrom at h
  clear hAe hD0
  suffices HH : ∀ (H : Heap) (locs : List Loc) (ls : Array Slot), fX12_movesFrom_0 qX12_movesFrom σ a1 a2 a3 = some (r0, σ9) → va_P (dC, dI) vwCl (wG (cM cy ad) ad 40 σ) H → va_D A (wG (cM cy ad) ad 40 σ) → va_S A s.heap H locs → lv_has ls 5 [(0, .ref (ad 0)), (1, .int a1), (2, .int a2), (3, .int a3)] → W p l e (headSpec wsX12_movesFrom ({ frames := 27 + (d + 1), cells := 0, slots := 0, locals := 619 + 24 * (d + 1) })).room s m (#[.ref (ad 0), .int a1, .int a2, .int a3]) below meth c H locs 0 0 (MQ below (va_Qi (fun (r : Int32) (_ : Unit) => r = r0) (fun (_ : Unit) t => wAt (dC, dI) A (wG (cM cy ad) ad 40 σ9) t) A) (#[.ref (ad 0), .int a1, .int a2, .int a3]) s 0 0 A) (F0 m 0 ls []) from HH s.heap [] ls h hP hD hS hl
  have w0 : ∀ (σ : S2) (x1 : Int32) (x2 : Int32) (x3 : Int32) (H : Heap) (locs : List Loc) (ls : Array Slot), fX12_movesFrom_0 qX12_movesFrom σ x1 x2 x3 = some (r0, σ9) → va_P (dC, dI) vwCl (wG (cM cy ad) ad 40 σ) H → va_D A (wG (cM cy ad) ad 40 σ) → va_S A s.heap H locs → lv_has ls 5 [(0, .ref (ad 0)), (1, .int x1), (2, .int x2), (3, .int x3)] → W p l e (headSpec wsX12_movesFrom ({ frames := 27 + (d + 1), cells := 0, slots := 0, locals := 619 + 24 * (d + 1) })).room s m (#[.ref (ad 0), .int a1, .int a2, .int a3]) below meth c H locs 0 0 (MQ below (va_Qi (fun (r : Int32) (_ : Unit) => r = r0) (fun (_ : Unit) t => wAt (dC, dI) A (wG (cM cy ad) ad 40 σ9) t) A) (#[.ref (ad 0), .int a1, .int a2, .int a3]) s 0 0 A) (F0 m 0 ls []) := by
    intro σ x1 x2 x3 H locs ls h hP hD hS hl
    unfold fX12_movesFrom_0 at h
    refine lv_iload_n hx hb dX12_movesFrom_0 rfl (lv_at hl 2 rfl) ?_
    by_cases hcd1 : x2 = 0
    · have h := cdP hcd1 h
      refine lv_lookup (off := 35) (tgt := 36) hx hb dX12_movesFrom_1 (by decide) (by rw [hcd1]; decide) (by decide) ?_
      refine lv_aload_n hx hb dX12_movesFrom_36 rfl (lv_at hl 0 rfl) ?_
      refine lv_bipush (v := 11) hx hb dX12_movesFrom_37 (by decide) ?_
      obtain ⟨r2, σ3, hf4, h⟩ := bsS h
      refine ux_callv (va_runV (As := [.int 11]) (rest := []) ⟨hx, hb, hml, hown, hts⟩ (tX12_begins l dC dI cy ad σ 11 H.size r2 σ3 hf4) (cwV 1 hts gX12_movesFrom_X12_begins rfl rfl rfl (by decide +kernel) ⟨by show 1 + 1 ≤ 27 + (d + 1); omega, by show 8 + (2 + 11) + 23 ≤ 619 + 24 * (d + 1); omega⟩) (wp_V hK hN hP hD (va_recv hK hP (ci := 12) (q0 := 0) rfl (wG_of (Nat.le_of_ble_eq_true rfl) rfl))) rfl rfl hl.1 rfl (lv_room (Nat.le_of_ble_eq_true rfl)) dX12_movesFrom_39 ⟨Nat.le_of_ble_eq_true rfl, Nat.le_of_ble_eq_true rfl⟩) hD hS hA (fun H locs hP hD hS => ?_)
      refine lv_iload_n hx hb dX12_movesFrom_42 rfl (lv_at hl 3 rfl) ?_
      refine lv_iload_n hx hb dX12_movesFrom_43 rfl (lv_at hl 1 rfl) ?_
      refine lv_ixor hx hb dX12_movesFrom_44 ?_
      exact ux_iret hx hb hr h hP hD hS hlocks dX12_movesFrom_45
    · have h := cdN hcd1 h
      by_cases hcd5 : x2 = 2
      · have h := cdP hcd5 h
        refine lv_lookup (off := 45) (tgt := 46) hx hb dX12_movesFrom_1 (by decide) (by rw [hcd5]; decide) (by decide) ?_
        refine lv_aload_n hx hb dX12_movesFrom_46 rfl (lv_at hl 0 rfl) ?_
        refine lv_bipush (v := 30) hx hb dX12_movesFrom_47 (by decide) ?_
        obtain ⟨r6, σ7, hf8, h⟩ := bsS h
        refine ux_callv (va_runV (As := [.int 30]) (rest := []) ⟨hx, hb, hml, hown, hts⟩ (tX12_begins l dC dI cy ad σ 30 H.size r6 σ7 hf8) (cwV 1 hts gX12_movesFrom_X12_begins rfl rfl rfl (by decide +kernel) ⟨by show 1 + 1 ≤ 27 + (d + 1); omega, by show 8 + (2 + 11) + 23 ≤ 619 + 24 * (d + 1); omega⟩) (wp_V hK hN hP hD (va_recv hK hP (ci := 12) (q0 := 0) rfl (wG_of (Nat.le_of_ble_eq_true rfl) rfl))) rfl rfl hl.1 rfl (lv_room (Nat.le_of_ble_eq_true rfl)) dX12_movesFrom_49 ⟨Nat.le_of_ble_eq_true rfl, Nat.le_of_ble_eq_true rfl⟩) hD hS hA (fun H locs hP hD hS => ?_)
        refine lv_aload_n hx hb dX12_movesFrom_52 rfl (lv_at hl 0 rfl) ?_
        refine lv_iload_n hx hb dX12_movesFrom_53 rfl (lv_at hl 1 rfl) ?_
        refine lv_iconst (v := 0) hx hb dX12_movesFrom_54 (by decide) ?_
        refine lv_iload_n hx hb dX12_movesFrom_55 rfl (lv_at hl 3 rfl) ?_
        obtain ⟨r9, σ10, hf11, h⟩ := bsS h
        refine ux_calli (va_runV (As := [.int x1, .int 0, .int x3]) (rest := []) ⟨hx, hb, hml, hown, hts⟩ (hqX12_movesFrom σ7 x1 0 x3 H.size r9 σ10 hf11) (cwV 3 hts gX12_movesFrom_X12_movesFrom rfl rfl rfl (by decide +kernel) ⟨by show (27 + d) + 1 ≤ 27 + (d + 1); omega, by show 8 + (5 + 11) + (619 + 24 * d) ≤ 619 + 24 * (d + 1); omega⟩) (wp_V hK hN hP hD (va_recv hK hP (ci := 12) (q0 := 0) rfl (wG_of (Nat.le_of_ble_eq_true rfl) rfl))) rfl rfl hl.1 rfl (lv_room (Nat.le_of_ble_eq_true rfl)) dX12_movesFrom_56 ⟨Nat.le_of_ble_eq_true rfl, Nat.le_of_ble_eq_true rfl⟩) hD hS hA (fun H locs hP hD hS => ?_)
        refine lv_iconst (v := 3) hx hb dX12_movesFrom_59 (by decide) ?_
        refine lv_imul hx hb dX12_movesFrom_60 ?_
        exact ux_iret hx hb hr h hP hD hS hlocks dX12_movesFrom_61
      · have h := cdN hcd5 h
        by_cases hcd12 : x2 = 5
        · have h := cdP hcd12 h
          refine lv_lookup (off := 61) (tgt := 62) hx hb dX12_movesFrom_1 (by decide) (by rw [hcd12]; decide) (by decide) ?_
          refine lv_aload_n hx hb dX12_movesFrom_62 rfl (lv_at hl 0 rfl) ?_
          refine lv_bipush (v := 61) hx hb dX12_movesFrom_63 (by decide) ?_
          obtain ⟨r13, σ14, hf15, h⟩ := bsS h
          refine ux_callv (va_runV (As := [.int 61]) (rest := []) ⟨hx, hb, hml, hown, hts⟩ (tX12_begins l dC dI cy ad σ 61 H.size r13 σ14 hf15) (cwV 1 hts gX12_movesFrom_X12_begins rfl rfl rfl (by decide +kernel) ⟨by show 1 + 1 ≤ 27 + (d + 1); omega, by show 8 + (2 + 11) + 23 ≤ 619 + 24 * (d + 1); omega⟩) (wp_V hK hN hP hD (va_recv hK hP (ci := 12) (q0 := 0) rfl (wG_of (Nat.le_of_ble_eq_true rfl) rfl))) rfl rfl hl.1 rfl (lv_room (Nat.le_of_ble_eq_true rfl)) dX12_movesFrom_65 ⟨Nat.le_of_ble_eq_true rfl, Nat.le_of_ble_eq_true rfl⟩) hD hS hA (fun H locs hP hD hS => ?_)
          refine lv_aload_n hx hb dX12_movesFrom_68 rfl (lv_at hl 0 rfl) ?_
          refine lv_iload_n hx hb dX12_movesFrom_69 rfl (lv_at hl 1 rfl) ?_
          refine lv_iconst (v := 0) hx hb dX12_movesFrom_70 (by decide) ?_
          refine lv_iload_n hx hb dX12_movesFrom_71 rfl (lv_at hl 3 rfl) ?_
          obtain ⟨r16, σ17, hf18, h⟩ := bsS h
          refine ux_calli (va_runV (As := [.int x1, .int 0, .int x3]) (rest := []) ⟨hx, hb, hml, hown, hts⟩ (hqX12_movesFrom σ14 x1 0 x3 H.size r16 σ17 hf18) (cwV 3 hts gX12_movesFrom_X12_movesFrom rfl rfl rfl (by decide +kernel) ⟨by show (27 + d) + 1 ≤ 27 + (d + 1); omega, by show 8 + (5 + 11) + (619 + 24 * d) ≤ 619 + 24 * (d + 1); omega⟩) (wp_V hK hN hP hD (va_recv hK hP (ci := 12) (q0 := 0) rfl (wG_of (Nat.le_of_ble_eq_true rfl) rfl))) rfl rfl hl.1 rfl (lv_room (Nat.le_of_ble_eq_true rfl)) dX12_movesFrom_72 ⟨Nat.le_of_ble_eq_true rfl, Nat.le_of_ble_eq_true rfl⟩) hD hS hA (fun H locs hP hD hS => ?_)
          refine lv_istore (lv' := [(4, .int r16), (0, .ref (ad 0)), (1, .int x1), (2, .int x2), (3, .int x3)]) hx hb dX12_movesFrom_75 hl (by decide) rfl (fun ls hl => ?_)
          have hl := lv_sub hl [1, 2, 3, 4, 0] (l' := [(0, .ref (ad 0)), (1, .int x1), (2, .int x2), (3, .int x3), (4, .int r16)]) rfl
          refine lv_iload hx hb dX12_movesFrom_77 (lv_at hl 4 rfl) ?_
          refine lv_aload_n hx hb dX12_movesFrom_79 rfl (lv_at hl 0 rfl) ?_
          refine lv_iload_n hx hb dX12_movesFrom_80 rfl (lv_at hl 1 rfl) ?_
          refine lv_aload_n hx hb dX12_movesFrom_81 rfl (lv_at hl 0 rfl) ?_
          refine ux_get (D := (dC, dI)) (ci := 12) (v := .ref (ad 5)) (C := RX12) (T := TX12) (M := 59) (fs := (oM ad (σ17.1 0))) hx hb hts (fun _ h9 => List.mem_cons_of_mem _ (List.mem_append_right _ h9)) hown hK hP 0 (Nat.le_of_ble_eq_true rfl) rfl rfl 6 (by decide) (hts (.fieldLink RX12 22 "SeatsRoundModel" "kind" "[I") (List.mem_of_getElem? (i := 1) rfl)) (fun _ h9 => h9) rfl dX12_movesFrom_82 ?_
          refine lv_iload_n hx hb dX12_movesFrom_85 rfl (lv_at hl 1 rfl) ?_
          refine ux_iald hx hb hK hP 5 0 (Nat.le_of_ble_eq_true rfl) (cM_5 _ _ _ _) rfl h dX12_movesFrom_86 (fun v19 h => ?_)
          change W _ _ _ _ _ _ _ _ _ _ _ _ _ _ _ (F0 m 87 ls [.int v19, .int x1, .ref (ad 0), .int r16])
          refine lv_iconst (v := 2) hx hb dX12_movesFrom_87 (by decide) ?_
          obtain ⟨r20, σ21, hf22, h⟩ := bsS h
          refine ux_calli (va_runV (As := [.int x1, .int v19, .int 2]) (rest := [.int r16]) ⟨hx, hb, hml, hown, hts⟩ (tX12_findsFrom l dC dI cy ad σ17 x1 v19 2 H.size r20 σ21 hf22) (cwV 3 hts gX12_movesFrom_X12_findsFrom rfl rfl rfl (by decide +kernel) ⟨by show 26 + 1 ≤ 27 + (d + 1); omega, by show 8 + (4 + 11) + 596 ≤ 619 + 24 * (d + 1); omega⟩) (wp_V hK hN hP hD (va_recv hK hP (ci := 12) (q0 := 0) rfl (wG_of (Nat.le_of_ble_eq_true rfl) rfl))) rfl rfl hl.1 rfl (lv_room (Nat.le_of_ble_eq_true rfl)) dX12_movesFrom_88 ⟨Nat.le_of_ble_eq_true rfl, Nat.le_of_ble_eq_true rfl⟩) hD hS hA (fun H locs hP hD hS => ?_)
          refine lv_isub hx hb dX12_movesFrom_91 ?_
          exact ux_iret hx hb hr h hP hD hS hlocks dX12_movesFrom_92
        · have h := cdN hcd12 h
          refine lv_lookup (off := 92) (tgt := 93) hx hb dX12_movesFrom_1 (by decide) ((lv_osw hcd1 (by decide)).trans ((lv_osw hcd5 (by decide)).trans ((lv_osw hcd12 (by decide)).trans rfl))) (by decide) ?_
          refine lv_aload_n hx hb dX12_movesFrom_93 rfl (lv_at hl 0 rfl) ?_
          refine lv_iload_n hx hb dX12_movesFrom_94 rfl (lv_at hl 1 rfl) ?_
          refine lv_iload_n hx hb dX12_movesFrom_95 rfl (lv_at hl 2 rfl) ?_
          obtain ⟨r23, hf24, h⟩ := biS h
          refine ux_calli (va_runS (As := [.int x2]) (rest := [.int x1, .ref (ad 0)]) ⟨hx, hb, hml, hown, hts⟩ (tX12_aboveOf l dC dI cy ad σ x2 H.size r23 hf24) (va_cwS 1 hts gX12_movesFrom_X12_aboveOf rfl rfl rfl (by decide +kernel) ⟨by show 1 + 1 ≤ 27 + (d + 1); omega, by show 8 + (1 + 11) + 23 ≤ 619 + 24 * (d + 1); omega⟩) (wp_S hK hN hP hD) rfl rfl hl.1 rfl (lv_room (Nat.le_of_ble_eq_true rfl)) dX12_movesFrom_96 ⟨Nat.le_of_ble_eq_true rfl, Nat.le_of_ble_eq_true rfl⟩) hD hS hA (fun H locs hP hD hS => ?_)
          refine lv_iload_n hx hb dX12_movesFrom_99 rfl (lv_at hl 3 rfl) ?_
          obtain ⟨r25, σ26, hf27, h⟩ := bsS h
          refine ux_calli (va_runV (As := [.int x1, .int r23, .int x3]) (rest := []) ⟨hx, hb, hml, hown, hts⟩ (hqX12_movesFrom σ x1 r23 x3 H.size r25 σ26 hf27) (cwV 3 hts gX12_movesFrom_X12_movesFrom rfl rfl rfl (by decide +kernel) ⟨by show (27 + d) + 1 ≤ 27 + (d + 1); omega, by show 8 + (5 + 11) + (619 + 24 * d) ≤ 619 + 24 * (d + 1); omega⟩) (wp_V hK hN hP hD (va_recv hK hP (ci := 12) (q0 := 0) rfl (wG_of (Nat.le_of_ble_eq_true rfl) rfl))) rfl rfl hl.1 rfl (lv_room (Nat.le_of_ble_eq_true rfl)) dX12_movesFrom_100 ⟨Nat.le_of_ble_eq_true rfl, Nat.le_of_ble_eq_true rfl⟩) hD hS hA (fun H locs hP hD hS => ?_)
          exact ux_iret hx hb hr h hP hD hS hlocks dX12_movesFrom_103
  intro H locs ls h hP hD hS hl
  exact w0 σ a1 a2 a3 H locs ls h hP hD hS (lv_sub hl [0, 1, 2, 3] rfl)

set_option maxRecDepth 100000 in
theorem gGX12_movesFrom (l : Launch) (dC : Nat → ClassId) (dI : Nat → Nat → Nat) (cy : Nat → ClassId) (ad : Nat → Nat) (d : Nat) : (∀ (σ : S2) (a1 : Int32) (a2 : Int32) (a3 : Int32) (sz : Nat) (r0 : Int32) (σ9 : S2), GX12_movesFrom d 0 σ a1 a2 a3 = some (r0, σ9) → Met l yX12_movesFrom wsX12_movesFrom ({ frames := 27 + d, cells := 0, slots := 0, locals := 619 + 24 * d }) (va_Pc [.ref (ad 0), .int a1, .int a2, .int a3] (wPre (dC, dI) cy (wG (cM cy ad) ad 40 σ) sz)) (va_Qi (fun (r : Int32) (_ : Unit) => r = r0) (fun (_ : Unit) t => wAt (dC, dI) (va_A (wG (cM cy ad) ad 40 σ) sz) (wG (cM cy ad) ad 40 σ9) t) (va_A (wG (cM cy ad) ad 40 σ) sz)) 0 0 (va_A (wG (cM cy ad) ad 40 σ) sz)) := by
  induction d with
  | zero => exact (by intros; contradiction)
  | succ d ih =>
    exact (fun σ a1 a2 a3 sz r0 σ9 h => uX12_movesFrom l dC dI cy ad d _ (ih) σ a1 a2 a3 sz r0 σ9 h)

theorem tX12_movesFrom (l : Launch) (dC : Nat → ClassId) (dI : Nat → Nat → Nat) (cy : Nat → ClassId) (ad : Nat → Nat) : ∀ (σ : S2) (a1 : Int32) (a2 : Int32) (a3 : Int32) (sz : Nat) (r0 : Int32) (σ9 : S2), fX12_movesFrom σ a1 a2 a3 = some (r0, σ9) → Met l yX12_movesFrom wsX12_movesFrom ({ frames := 51, cells := 0, slots := 0, locals := 1195 }) (va_Pc [.ref (ad 0), .int a1, .int a2, .int a3] (wPre (dC, dI) cy (wG (cM cy ad) ad 40 σ) sz)) (va_Qi (fun (r : Int32) (_ : Unit) => r = r0) (fun (_ : Unit) t => wAt (dC, dI) (va_A (wG (cM cy ad) ad 40 σ) sz) (wG (cM cy ad) ad 40 σ9) t) (va_A (wG (cM cy ad) ad 40 σ) sz)) 0 0 (va_A (wG (cM cy ad) ad 40 σ) sz) := (gGX12_movesFrom l dC dI cy ad 24)

set_option maxHeartbeats 4000000 in
set_option maxRecDepth 100000 in
theorem uX12_keepsFrom (l : Launch) (dC : Nat → ClassId) (dI : Nat → Nat → Nat) (cy : Nat → ClassId) (ad : Nat → Nat) (d : Nat) (qX12_keepsFrom : S2 → Int32 → Int32 → Int32 → Option (Int32 × S2)) (hqX12_keepsFrom : ∀ (σ : S2) (a1 : Int32) (a2 : Int32) (a3 : Int32) (sz : Nat) (r0 : Int32) (σ9 : S2), qX12_keepsFrom σ a1 a2 a3 = some (r0, σ9) → Met l yX12_keepsFrom wsX12_keepsFrom ({ frames := 52 + d, cells := 0, slots := 0, locals := 1219 + 24 * d }) (va_Pc [.ref (ad 0), .int a1, .int a2, .int a3] (wPre (dC, dI) cy (wG (cM cy ad) ad 40 σ) sz)) (va_Qi (fun (r : Int32) (_ : Unit) => r = r0) (fun (_ : Unit) t => wAt (dC, dI) (va_A (wG (cM cy ad) ad 40 σ) sz) (wG (cM cy ad) ad 40 σ9) t) (va_A (wG (cM cy ad) ad 40 σ) sz)) 0 0 (va_A (wG (cM cy ad) ad 40 σ) sz)) (σ : S2) (a1 : Int32) (a2 : Int32) (a3 : Int32) (sz : Nat) (r0 : Int32) (σ9 : S2) (h : eX12_keepsFrom qX12_keepsFrom σ a1 a2 a3 = some (r0, σ9)) : Met l yX12_keepsFrom wsX12_keepsFrom ({ frames := 52 + (d + 1), cells := 0, slots := 0, locals := 1219 + 24 * (d + 1) }) (va_Pc [.ref (ad 0), .int a1, .int a2, .int a3] (wPre (dC, dI) cy (wG (cM cy ad) ad 40 σ) sz)) (va_Qi (fun (r : Int32) (_ : Unit) => r = r0) (fun (_ : Unit) t => wAt (dC, dI) (va_A (wG (cM cy ad) ad 40 σ) sz) (wG (cM cy ad) ad 40 σ9) t) (va_A (wG (cM cy ad) ad 40 σ) sz)) 0 0 (va_A (wG (cM cy ad) ad 40 σ) sz) := by
  refine Met.ofW (cc := cX12_keepsFrom) (maxL := 5) (ret := (some .int)) (by decide) rfl ?_
  intro p e s m args below meth c s₁ B hml hv
  obtain ⟨rfl, hsz, hP, hK, hD0, hN⟩ := hv
  have hx := B.exec
  have hb := B.bytes
  have hr := B.returns
  have hts := atoms_spec (ws := wsX12_keepsFrom) B.pre
  have hown : s.vm.findClass RX12 = some m.cls := findClass_of_methodNamed B.named
  have hlocks := B.notSynchronized
  subst hsz
  have hD := hD0.self (sz := s.heap.size)
  generalize hAe : va_A (wG (cM cy ad) ad 40 σ) s.heap.size = A at hD ⊢
  have hA : ∀ q : Nat, s.heap.size ≤ q → A q := fun q h => by rw [← hAe]; exact Or.inr h
  have hS : va_S A s.heap s.heap [] := va_S.rf
  have hl := lv_entry ([.ref (ad 0), .int a1, .int a2, .int a3]) (n := 5) (Nat.le_of_ble_eq_true rfl)
  rw [lg_entry_eq]
  generalize (lg_sl ([.ref (ad 0), .int a1, .int a2, .int a3]) ++ List.replicate (5 - (lg_sl ([.ref (ad 0), .int a1, .int a2, .int a3])).length) Slot.unset).toArray = ls at hl ⊢
  have hl : lv_has ls 5 [(0, .ref (ad 0)), (1, .int a1), (2, .int a2), (3, .int a3)] := hl
  unfold eX12_keepsFrom at h
  clear hAe hD0
  suffices HH : ∀ (H : Heap) (locs : List Loc) (ls : Array Slot), fX12_keepsFrom_0 qX12_keepsFrom σ a1 a2 a3 = some (r0, σ9) → va_P (dC, dI) vwCl (wG (cM cy ad) ad 40 σ) H → va_D A (wG (cM cy ad) ad 40 σ) → va_S A s.heap H locs → lv_has ls 5 [(0, .ref (ad 0)), (1, .int a1), (2, .int a2), (3, .int a3)] → W p l e (headSpec wsX12_keepsFrom ({ frames := 52 + (d + 1), cells := 0, slots := 0, locals := 1219 + 24 * (d + 1) })).room s m (#[.ref (ad 0), .int a1, .int a2, .int a3]) below meth c H locs 0 0 (MQ below (va_Qi (fun (r : Int32) (_ : Unit) => r = r0) (fun (_ : Unit) t => wAt (dC, dI) A (wG (cM cy ad) ad 40 σ9) t) A) (#[.ref (ad 0), .int a1, .int a2, .int a3]) s 0 0 A) (F0 m 0 ls []) from HH s.heap [] ls h hP hD hS hl
  have w0 : ∀ (σ : S2) (x1 : Int32) (x2 : Int32) (x3 : Int32) (H : Heap) (locs : List Loc) (ls : Array Slot), fX12_keepsFrom_0 qX12_keepsFrom σ x1 x2 x3 = some (r0, σ9) → va_P (dC, dI) vwCl (wG (cM cy ad) ad 40 σ) H → va_D A (wG (cM cy ad) ad 40 σ) → va_S A s.heap H locs → lv_has ls 5 [(0, .ref (ad 0)), (1, .int x1), (2, .int x2), (3, .int x3)] → W p l e (headSpec wsX12_keepsFrom ({ frames := 52 + (d + 1), cells := 0, slots := 0, locals := 1219 + 24 * (d + 1) })).room s m (#[.ref (ad 0), .int a1, .int a2, .int a3]) below meth c H locs 0 0 (MQ below (va_Qi (fun (r : Int32) (_ : Unit) => r = r0) (fun (_ : Unit) t => wAt (dC, dI) A (wG (cM cy ad) ad 40 σ9) t) A) (#[.ref (ad 0), .int a1, .int a2, .int a3]) s 0 0 A) (F0 m 0 ls []) := by
    intro σ x1 x2 x3 H locs ls h hP hD hS hl
    unfold fX12_keepsFrom_0 at h
    refine lv_iload_n hx hb dX12_keepsFrom_0 rfl (lv_at hl 2 rfl) ?_
    by_cases hcd1 : x2 = 0
    · have h := cdP hcd1 h
      refine lv_lookup (off := 35) (tgt := 36) hx hb dX12_keepsFrom_1 (by decide) (by rw [hcd1]; decide) (by decide) ?_
      refine lv_aload_n hx hb dX12_keepsFrom_36 rfl (lv_at hl 0 rfl) ?_
      refine lv_bipush (v := 10) hx hb dX12_keepsFrom_37 (by decide) ?_
      obtain ⟨r2, σ3, hf4, h⟩ := bsS h
      refine ux_callv (va_runV (As := [.int 10]) (rest := []) ⟨hx, hb, hml, hown, hts⟩ (tX12_begins l dC dI cy ad σ 10 H.size r2 σ3 hf4) (cwV 1 hts gX12_keepsFrom_X12_begins rfl rfl rfl (by decide +kernel) ⟨by show 1 + 1 ≤ 52 + (d + 1); omega, by show 8 + (2 + 11) + 23 ≤ 1219 + 24 * (d + 1); omega⟩) (wp_V hK hN hP hD (va_recv hK hP (ci := 12) (q0 := 0) rfl (wG_of (Nat.le_of_ble_eq_true rfl) rfl))) rfl rfl hl.1 rfl (lv_room (Nat.le_of_ble_eq_true rfl)) dX12_keepsFrom_39 ⟨Nat.le_of_ble_eq_true rfl, Nat.le_of_ble_eq_true rfl⟩) hD hS hA (fun H locs hP hD hS => ?_)
      refine lv_aload_n hx hb dX12_keepsFrom_42 rfl (lv_at hl 0 rfl) ?_
      refine lv_iload_n hx hb dX12_keepsFrom_43 rfl (lv_at hl 1 rfl) ?_
      refine lv_aload_n hx hb dX12_keepsFrom_44 rfl (lv_at hl 0 rfl) ?_
      refine ux_get (D := (dC, dI)) (ci := 12) (v := .ref (ad 5)) (C := RX12) (T := TX12) (M := 59) (fs := (oM ad (σ3.1 0))) hx hb hts (fun _ h9 => List.mem_cons_of_mem _ (List.mem_append_right _ h9)) hown hK hP 0 (Nat.le_of_ble_eq_true rfl) rfl rfl 6 (by decide) (hts (.fieldLink RX12 22 "SeatsRoundModel" "kind" "[I") (List.mem_of_getElem? (i := 1) rfl)) (fun _ h9 => h9) rfl dX12_keepsFrom_45 ?_
      refine lv_iload_n hx hb dX12_keepsFrom_48 rfl (lv_at hl 1 rfl) ?_
      refine ux_iald hx hb hK hP 5 0 (Nat.le_of_ble_eq_true rfl) (cM_5 _ _ _ _) rfl h dX12_keepsFrom_49 (fun v5 h => ?_)
      refine lv_iload_n hx hb dX12_keepsFrom_50 rfl (lv_at hl 3 rfl) ?_
      obtain ⟨r6, σ7, hf8, h⟩ := bsS h
      refine ux_calli (va_runV (As := [.int x1, .int v5, .int x3]) (rest := []) ⟨hx, hb, hml, hown, hts⟩ (tX12_findsFrom l dC dI cy ad σ3 x1 v5 x3 H.size r6 σ7 hf8) (cwV 3 hts gX12_keepsFrom_X12_findsFrom rfl rfl rfl (by decide +kernel) ⟨by show 26 + 1 ≤ 52 + (d + 1); omega, by show 8 + (4 + 11) + 596 ≤ 1219 + 24 * (d + 1); omega⟩) (wp_V hK hN hP hD (va_recv hK hP (ci := 12) (q0 := 0) rfl (wG_of (Nat.le_of_ble_eq_true rfl) rfl))) rfl rfl hl.1 rfl (lv_room (Nat.le_of_ble_eq_true rfl)) dX12_keepsFrom_51 ⟨Nat.le_of_ble_eq_true rfl, Nat.le_of_ble_eq_true rfl⟩) hD hS hA (fun H locs hP hD hS => ?_)
      refine lv_iconst (v := 2) hx hb dX12_keepsFrom_54 (by decide) ?_
      refine lv_imul hx hb dX12_keepsFrom_55 ?_
      exact ux_iret hx hb hr h hP hD hS hlocks dX12_keepsFrom_56
    · have h := cdN hcd1 h
      by_cases hcd9 : x2 = 3
      · have h := cdP hcd9 h
        refine lv_lookup (off := 56) (tgt := 57) hx hb dX12_keepsFrom_1 (by decide) (by rw [hcd9]; decide) (by decide) ?_
        refine lv_aload_n hx hb dX12_keepsFrom_57 rfl (lv_at hl 0 rfl) ?_
        refine lv_bipush (v := 40) hx hb dX12_keepsFrom_58 (by decide) ?_
        obtain ⟨r10, σ11, hf12, h⟩ := bsS h
        refine ux_callv (va_runV (As := [.int 40]) (rest := []) ⟨hx, hb, hml, hown, hts⟩ (tX12_begins l dC dI cy ad σ 40 H.size r10 σ11 hf12) (cwV 1 hts gX12_keepsFrom_X12_begins rfl rfl rfl (by decide +kernel) ⟨by show 1 + 1 ≤ 52 + (d + 1); omega, by show 8 + (2 + 11) + 23 ≤ 1219 + 24 * (d + 1); omega⟩) (wp_V hK hN hP hD (va_recv hK hP (ci := 12) (q0 := 0) rfl (wG_of (Nat.le_of_ble_eq_true rfl) rfl))) rfl rfl hl.1 rfl (lv_room (Nat.le_of_ble_eq_true rfl)) dX12_keepsFrom_60 ⟨Nat.le_of_ble_eq_true rfl, Nat.le_of_ble_eq_true rfl⟩) hD hS hA (fun H locs hP hD hS => ?_)
        refine lv_aload_n hx hb dX12_keepsFrom_63 rfl (lv_at hl 0 rfl) ?_
        refine lv_iload_n hx hb dX12_keepsFrom_64 rfl (lv_at hl 1 rfl) ?_
        refine lv_iconst (v := 0) hx hb dX12_keepsFrom_65 (by decide) ?_
        refine lv_iload_n hx hb dX12_keepsFrom_66 rfl (lv_at hl 3 rfl) ?_
        obtain ⟨r13, σ14, hf15, h⟩ := bsS h
        refine ux_calli (va_runV (As := [.int x1, .int 0, .int x3]) (rest := []) ⟨hx, hb, hml, hown, hts⟩ (hqX12_keepsFrom σ11 x1 0 x3 H.size r13 σ14 hf15) (cwV 3 hts gX12_keepsFrom_X12_keepsFrom rfl rfl rfl (by decide +kernel) ⟨by show (52 + d) + 1 ≤ 52 + (d + 1); omega, by show 8 + (5 + 11) + (1219 + 24 * d) ≤ 1219 + 24 * (d + 1); omega⟩) (wp_V hK hN hP hD (va_recv hK hP (ci := 12) (q0 := 0) rfl (wG_of (Nat.le_of_ble_eq_true rfl) rfl))) rfl rfl hl.1 rfl (lv_room (Nat.le_of_ble_eq_true rfl)) dX12_keepsFrom_67 ⟨Nat.le_of_ble_eq_true rfl, Nat.le_of_ble_eq_true rfl⟩) hD hS hA (fun H locs hP hD hS => ?_)
        refine lv_ineg hx hb dX12_keepsFrom_70 ?_
        exact ux_iret hx hb hr h hP hD hS hlocks dX12_keepsFrom_71
      · have h := cdN hcd9 h
        by_cases hcd16 : x2 = 6
        · have h := cdP hcd16 h
          refine lv_lookup (off := 71) (tgt := 72) hx hb dX12_keepsFrom_1 (by decide) (by rw [hcd16]; decide) (by decide) ?_
          refine lv_aload_n hx hb dX12_keepsFrom_72 rfl (lv_at hl 0 rfl) ?_
          refine lv_bipush (v := 70) hx hb dX12_keepsFrom_73 (by decide) ?_
          obtain ⟨r17, σ18, hf19, h⟩ := bsS h
          refine ux_callv (va_runV (As := [.int 70]) (rest := []) ⟨hx, hb, hml, hown, hts⟩ (tX12_begins l dC dI cy ad σ 70 H.size r17 σ18 hf19) (cwV 1 hts gX12_keepsFrom_X12_begins rfl rfl rfl (by decide +kernel) ⟨by show 1 + 1 ≤ 52 + (d + 1); omega, by show 8 + (2 + 11) + 23 ≤ 1219 + 24 * (d + 1); omega⟩) (wp_V hK hN hP hD (va_recv hK hP (ci := 12) (q0 := 0) rfl (wG_of (Nat.le_of_ble_eq_true rfl) rfl))) rfl rfl hl.1 rfl (lv_room (Nat.le_of_ble_eq_true rfl)) dX12_keepsFrom_75 ⟨Nat.le_of_ble_eq_true rfl, Nat.le_of_ble_eq_true rfl⟩) hD hS hA (fun H locs hP hD hS => ?_)
          refine lv_aload_n hx hb dX12_keepsFrom_78 rfl (lv_at hl 0 rfl) ?_
          refine lv_iload_n hx hb dX12_keepsFrom_79 rfl (lv_at hl 1 rfl) ?_
          refine lv_iconst (v := 1) hx hb dX12_keepsFrom_80 (by decide) ?_
          refine lv_iload_n hx hb dX12_keepsFrom_81 rfl (lv_at hl 3 rfl) ?_
          obtain ⟨r20, σ21, hf22, h⟩ := bsS h
          refine ux_calli (va_runV (As := [.int x1, .int 1, .int x3]) (rest := []) ⟨hx, hb, hml, hown, hts⟩ (hqX12_keepsFrom σ18 x1 1 x3 H.size r20 σ21 hf22) (cwV 3 hts gX12_keepsFrom_X12_keepsFrom rfl rfl rfl (by decide +kernel) ⟨by show (52 + d) + 1 ≤ 52 + (d + 1); omega, by show 8 + (5 + 11) + (1219 + 24 * d) ≤ 1219 + 24 * (d + 1); omega⟩) (wp_V hK hN hP hD (va_recv hK hP (ci := 12) (q0 := 0) rfl (wG_of (Nat.le_of_ble_eq_true rfl) rfl))) rfl rfl hl.1 rfl (lv_room (Nat.le_of_ble_eq_true rfl)) dX12_keepsFrom_82 ⟨Nat.le_of_ble_eq_true rfl, Nat.le_of_ble_eq_true rfl⟩) hD hS hA (fun H locs hP hD hS => ?_)
          refine lv_istore (lv' := [(4, .int r20), (0, .ref (ad 0)), (1, .int x1), (2, .int x2), (3, .int x3)]) hx hb dX12_keepsFrom_85 hl (by decide) rfl (fun ls hl => ?_)
          have hl := lv_sub hl [1, 2, 3, 4, 0] (l' := [(0, .ref (ad 0)), (1, .int x1), (2, .int x2), (3, .int x3), (4, .int r20)]) rfl
          refine lv_iload hx hb dX12_keepsFrom_87 (lv_at hl 4 rfl) ?_
          refine lv_aload_n hx hb dX12_keepsFrom_89 rfl (lv_at hl 0 rfl) ?_
          refine lv_iload_n hx hb dX12_keepsFrom_90 rfl (lv_at hl 1 rfl) ?_
          refine lv_iconst (v := 1) hx hb dX12_keepsFrom_91 (by decide) ?_
          refine lv_iload_n hx hb dX12_keepsFrom_92 rfl (lv_at hl 3 rfl) ?_
          obtain ⟨r23, σ24, hf25, h⟩ := bsS h
          refine ux_calli (va_runV (As := [.int x1, .int 1, .int x3]) (rest := [.int r20]) ⟨hx, hb, hml, hown, hts⟩ (tX12_movesFrom l dC dI cy ad σ21 x1 1 x3 H.size r23 σ24 hf25) (cwV 3 hts gX12_keepsFrom_X12_movesFrom rfl rfl rfl (by decide +kernel) ⟨by show 51 + 1 ≤ 52 + (d + 1); omega, by show 8 + (5 + 11) + 1195 ≤ 1219 + 24 * (d + 1); omega⟩) (wp_V hK hN hP hD (va_recv hK hP (ci := 12) (q0 := 0) rfl (wG_of (Nat.le_of_ble_eq_true rfl) rfl))) rfl rfl hl.1 rfl (lv_room (Nat.le_of_ble_eq_true rfl)) dX12_keepsFrom_93 ⟨Nat.le_of_ble_eq_true rfl, Nat.le_of_ble_eq_true rfl⟩) hD hS hA (fun H locs hP hD hS => ?_)
          refine lv_iadd hx hb dX12_keepsFrom_96 ?_
          exact ux_iret hx hb hr h hP hD hS hlocks dX12_keepsFrom_97
        · have h := cdN hcd16 h
          refine lv_lookup (off := 97) (tgt := 98) hx hb dX12_keepsFrom_1 (by decide) ((lv_osw hcd1 (by decide)).trans ((lv_osw hcd9 (by decide)).trans ((lv_osw hcd16 (by decide)).trans rfl))) (by decide) ?_
          refine lv_aload_n hx hb dX12_keepsFrom_98 rfl (lv_at hl 0 rfl) ?_
          refine lv_iload_n hx hb dX12_keepsFrom_99 rfl (lv_at hl 1 rfl) ?_
          refine lv_iload_n hx hb dX12_keepsFrom_100 rfl (lv_at hl 2 rfl) ?_
          obtain ⟨r26, hf27, h⟩ := biS h
          refine ux_calli (va_runS (As := [.int x2]) (rest := [.int x1, .ref (ad 0)]) ⟨hx, hb, hml, hown, hts⟩ (tX12_aboveOf l dC dI cy ad σ x2 H.size r26 hf27) (va_cwS 1 hts gX12_keepsFrom_X12_aboveOf rfl rfl rfl (by decide +kernel) ⟨by show 1 + 1 ≤ 52 + (d + 1); omega, by show 8 + (1 + 11) + 23 ≤ 1219 + 24 * (d + 1); omega⟩) (wp_S hK hN hP hD) rfl rfl hl.1 rfl (lv_room (Nat.le_of_ble_eq_true rfl)) dX12_keepsFrom_101 ⟨Nat.le_of_ble_eq_true rfl, Nat.le_of_ble_eq_true rfl⟩) hD hS hA (fun H locs hP hD hS => ?_)
          refine lv_iload_n hx hb dX12_keepsFrom_104 rfl (lv_at hl 3 rfl) ?_
          obtain ⟨r28, σ29, hf30, h⟩ := bsS h
          refine ux_calli (va_runV (As := [.int x1, .int r26, .int x3]) (rest := []) ⟨hx, hb, hml, hown, hts⟩ (hqX12_keepsFrom σ x1 r26 x3 H.size r28 σ29 hf30) (cwV 3 hts gX12_keepsFrom_X12_keepsFrom rfl rfl rfl (by decide +kernel) ⟨by show (52 + d) + 1 ≤ 52 + (d + 1); omega, by show 8 + (5 + 11) + (1219 + 24 * d) ≤ 1219 + 24 * (d + 1); omega⟩) (wp_V hK hN hP hD (va_recv hK hP (ci := 12) (q0 := 0) rfl (wG_of (Nat.le_of_ble_eq_true rfl) rfl))) rfl rfl hl.1 rfl (lv_room (Nat.le_of_ble_eq_true rfl)) dX12_keepsFrom_105 ⟨Nat.le_of_ble_eq_true rfl, Nat.le_of_ble_eq_true rfl⟩) hD hS hA (fun H locs hP hD hS => ?_)
          exact ux_iret hx hb hr h hP hD hS hlocks dX12_keepsFrom_108
  intro H locs ls h hP hD hS hl
  exact w0 σ a1 a2 a3 H locs ls h hP hD hS (lv_sub hl [0, 1, 2, 3] rfl)

set_option maxRecDepth 100000 in
theorem gGX12_keepsFrom (l : Launch) (dC : Nat → ClassId) (dI : Nat → Nat → Nat) (cy : Nat → ClassId) (ad : Nat → Nat) (d : Nat) : (∀ (σ : S2) (a1 : Int32) (a2 : Int32) (a3 : Int32) (sz : Nat) (r0 : Int32) (σ9 : S2), GX12_keepsFrom d 0 σ a1 a2 a3 = some (r0, σ9) → Met l yX12_keepsFrom wsX12_keepsFrom ({ frames := 52 + d, cells := 0, slots := 0, locals := 1219 + 24 * d }) (va_Pc [.ref (ad 0), .int a1, .int a2, .int a3] (wPre (dC, dI) cy (wG (cM cy ad) ad 40 σ) sz)) (va_Qi (fun (r : Int32) (_ : Unit) => r = r0) (fun (_ : Unit) t => wAt (dC, dI) (va_A (wG (cM cy ad) ad 40 σ) sz) (wG (cM cy ad) ad 40 σ9) t) (va_A (wG (cM cy ad) ad 40 σ) sz)) 0 0 (va_A (wG (cM cy ad) ad 40 σ) sz)) := by
  induction d with
  | zero => exact (by intros; contradiction)
  | succ d ih =>
    exact (fun σ a1 a2 a3 sz r0 σ9 h => uX12_keepsFrom l dC dI cy ad d _ (ih) σ a1 a2 a3 sz r0 σ9 h)

theorem tX12_keepsFrom (l : Launch) (dC : Nat → ClassId) (dI : Nat → Nat → Nat) (cy : Nat → ClassId) (ad : Nat → Nat) : ∀ (σ : S2) (a1 : Int32) (a2 : Int32) (a3 : Int32) (sz : Nat) (r0 : Int32) (σ9 : S2), fX12_keepsFrom σ a1 a2 a3 = some (r0, σ9) → Met l yX12_keepsFrom wsX12_keepsFrom ({ frames := 76, cells := 0, slots := 0, locals := 1795 }) (va_Pc [.ref (ad 0), .int a1, .int a2, .int a3] (wPre (dC, dI) cy (wG (cM cy ad) ad 40 σ) sz)) (va_Qi (fun (r : Int32) (_ : Unit) => r = r0) (fun (_ : Unit) t => wAt (dC, dI) (va_A (wG (cM cy ad) ad 40 σ) sz) (wG (cM cy ad) ad 40 σ9) t) (va_A (wG (cM cy ad) ad 40 σ) sz)) 0 0 (va_A (wG (cM cy ad) ad 40 σ) sz) := (gGX12_keepsFrom l dC dI cy ad 24)

set_option maxHeartbeats 4000000 in
set_option maxRecDepth 100000 in
theorem uX12_tellsFrom (l : Launch) (dC : Nat → ClassId) (dI : Nat → Nat → Nat) (cy : Nat → ClassId) (ad : Nat → Nat) (d : Nat) (qX12_tellsFrom : S2 → Int32 → Int32 → Int32 → Option (Int32 × S2)) (hqX12_tellsFrom : ∀ (σ : S2) (a1 : Int32) (a2 : Int32) (a3 : Int32) (sz : Nat) (r0 : Int32) (σ9 : S2), qX12_tellsFrom σ a1 a2 a3 = some (r0, σ9) → Met l yX12_tellsFrom wsX12_tellsFrom ({ frames := 77 + d, cells := 0, slots := 0, locals := 1819 + 24 * d }) (va_Pc [.ref (ad 0), .int a1, .int a2, .int a3] (wPre (dC, dI) cy (wG (cM cy ad) ad 40 σ) sz)) (va_Qi (fun (r : Int32) (_ : Unit) => r = r0) (fun (_ : Unit) t => wAt (dC, dI) (va_A (wG (cM cy ad) ad 40 σ) sz) (wG (cM cy ad) ad 40 σ9) t) (va_A (wG (cM cy ad) ad 40 σ) sz)) 0 0 (va_A (wG (cM cy ad) ad 40 σ) sz)) (σ : S2) (a1 : Int32) (a2 : Int32) (a3 : Int32) (sz : Nat) (r0 : Int32) (σ9 : S2) (h : eX12_tellsFrom qX12_tellsFrom σ a1 a2 a3 = some (r0, σ9)) : Met l yX12_tellsFrom wsX12_tellsFrom ({ frames := 77 + (d + 1), cells := 0, slots := 0, locals := 1819 + 24 * (d + 1) }) (va_Pc [.ref (ad 0), .int a1, .int a2, .int a3] (wPre (dC, dI) cy (wG (cM cy ad) ad 40 σ) sz)) (va_Qi (fun (r : Int32) (_ : Unit) => r = r0) (fun (_ : Unit) t => wAt (dC, dI) (va_A (wG (cM cy ad) ad 40 σ) sz) (wG (cM cy ad) ad 40 σ9) t) (va_A (wG (cM cy ad) ad 40 σ) sz)) 0 0 (va_A (wG (cM cy ad) ad 40 σ) sz) := by
  refine Met.ofW (cc := cX12_tellsFrom) (maxL := 5) (ret := (some .int)) (by decide) rfl ?_
  intro p e s m args below meth c s₁ B hml hv
  obtain ⟨rfl, hsz, hP, hK, hD0, hN⟩ := hv
  have hx := B.exec
  have hb := B.bytes
  have hr := B.returns
  have hts := atoms_spec (ws := wsX12_tellsFrom) B.pre
  have hown : s.vm.findClass RX12 = some m.cls := findClass_of_methodNamed B.named
  have hlocks := B.notSynchronized
  subst hsz
  have hD := hD0.self (sz := s.heap.size)
  generalize hAe : va_A (wG (cM cy ad) ad 40 σ) s.heap.size = A at hD ⊢
  have hA : ∀ q : Nat, s.heap.size ≤ q → A q := fun q h => by rw [← hAe]; exact Or.inr h
  have hS : va_S A s.heap s.heap [] := va_S.rf
  have hl := lv_entry ([.ref (ad 0), .int a1, .int a2, .int a3]) (n := 5) (Nat.le_of_ble_eq_true rfl)
  rw [lg_entry_eq]
  generalize (lg_sl ([.ref (ad 0), .int a1, .int a2, .int a3]) ++ List.replicate (5 - (lg_sl ([.ref (ad 0), .int a1, .int a2, .int a3])).length) Slot.unset).toArray = ls at hl ⊢
  have hl : lv_has ls 5 [(0, .ref (ad 0)), (1, .int a1), (2, .int a2), (3, .int a3)] := hl
  unfold eX12_tellsFrom at h
  clear hAe hD0
  suffices HH : ∀ (H : Heap) (locs : List Loc) (ls : Array Slot), fX12_tellsFrom_0 qX12_tellsFrom σ a1 a2 a3 = some (r0, σ9) → va_P (dC, dI) vwCl (wG (cM cy ad) ad 40 σ) H → va_D A (wG (cM cy ad) ad 40 σ) → va_S A s.heap H locs → lv_has ls 5 [(0, .ref (ad 0)), (1, .int a1), (2, .int a2), (3, .int a3)] → W p l e (headSpec wsX12_tellsFrom ({ frames := 77 + (d + 1), cells := 0, slots := 0, locals := 1819 + 24 * (d + 1) })).room s m (#[.ref (ad 0), .int a1, .int a2, .int a3]) below meth c H locs 0 0 (MQ below (va_Qi (fun (r : Int32) (_ : Unit) => r = r0) (fun (_ : Unit) t => wAt (dC, dI) A (wG (cM cy ad) ad 40 σ9) t) A) (#[.ref (ad 0), .int a1, .int a2, .int a3]) s 0 0 A) (F0 m 0 ls []) from HH s.heap [] ls h hP hD hS hl
  have w0 : ∀ (σ : S2) (x1 : Int32) (x2 : Int32) (x3 : Int32) (H : Heap) (locs : List Loc) (ls : Array Slot), fX12_tellsFrom_0 qX12_tellsFrom σ x1 x2 x3 = some (r0, σ9) → va_P (dC, dI) vwCl (wG (cM cy ad) ad 40 σ) H → va_D A (wG (cM cy ad) ad 40 σ) → va_S A s.heap H locs → lv_has ls 5 [(0, .ref (ad 0)), (1, .int x1), (2, .int x2), (3, .int x3)] → W p l e (headSpec wsX12_tellsFrom ({ frames := 77 + (d + 1), cells := 0, slots := 0, locals := 1819 + 24 * (d + 1) })).room s m (#[.ref (ad 0), .int a1, .int a2, .int a3]) below meth c H locs 0 0 (MQ below (va_Qi (fun (r : Int32) (_ : Unit) => r = r0) (fun (_ : Unit) t => wAt (dC, dI) A (wG (cM cy ad) ad 40 σ9) t) A) (#[.ref (ad 0), .int a1, .int a2, .int a3]) s 0 0 A) (F0 m 0 ls []) := by
    intro σ x1 x2 x3 H locs ls h hP hD hS hl
    unfold fX12_tellsFrom_0 at h
    refine lv_iload_n hx hb dX12_tellsFrom_0 rfl (lv_at hl 2 rfl) ?_
    by_cases hcd1 : x2 = 0
    · have h := cdP hcd1 h
      refine lv_lookup (off := 27) (tgt := 28) hx hb dX12_tellsFrom_1 (by decide) (by rw [hcd1]; decide) (by decide) ?_
      refine lv_aload_n hx hb dX12_tellsFrom_28 rfl (lv_at hl 0 rfl) ?_
      refine lv_iconst (v := 2) hx hb dX12_tellsFrom_29 (by decide) ?_
      obtain ⟨r2, σ3, hf4, h⟩ := bsS h
      refine ux_callv (va_runV (As := [.int 2]) (rest := []) ⟨hx, hb, hml, hown, hts⟩ (tX12_begins l dC dI cy ad σ 2 H.size r2 σ3 hf4) (cwV 1 hts gX12_tellsFrom_X12_begins rfl rfl rfl (by decide +kernel) ⟨by show 1 + 1 ≤ 77 + (d + 1); omega, by show 8 + (2 + 11) + 23 ≤ 1819 + 24 * (d + 1); omega⟩) (wp_V hK hN hP hD (va_recv hK hP (ci := 12) (q0 := 0) rfl (wG_of (Nat.le_of_ble_eq_true rfl) rfl))) rfl rfl hl.1 rfl (lv_room (Nat.le_of_ble_eq_true rfl)) dX12_tellsFrom_30 ⟨Nat.le_of_ble_eq_true rfl, Nat.le_of_ble_eq_true rfl⟩) hD hS hA (fun H locs hP hD hS => ?_)
      refine lv_aload_n hx hb dX12_tellsFrom_33 rfl (lv_at hl 0 rfl) ?_
      refine lv_iload_n hx hb dX12_tellsFrom_34 rfl (lv_at hl 1 rfl) ?_
      refine lv_aload_n hx hb dX12_tellsFrom_35 rfl (lv_at hl 0 rfl) ?_
      refine ux_get (D := (dC, dI)) (ci := 12) (v := .ref (ad 5)) (C := RX12) (T := TX12) (M := 59) (fs := (oM ad (σ3.1 0))) hx hb hts (fun _ h9 => List.mem_cons_of_mem _ (List.mem_append_right _ h9)) hown hK hP 0 (Nat.le_of_ble_eq_true rfl) rfl rfl 6 (by decide) (hts (.fieldLink RX12 22 "SeatsRoundModel" "kind" "[I") (List.mem_of_getElem? (i := 1) rfl)) (fun _ h9 => h9) rfl dX12_tellsFrom_36 ?_
      refine lv_iload_n hx hb dX12_tellsFrom_39 rfl (lv_at hl 1 rfl) ?_
      refine ux_iald hx hb hK hP 5 0 (Nat.le_of_ble_eq_true rfl) (cM_5 _ _ _ _) rfl h dX12_tellsFrom_40 (fun v5 h => ?_)
      refine lv_iload_n hx hb dX12_tellsFrom_41 rfl (lv_at hl 3 rfl) ?_
      obtain ⟨r6, σ7, hf8, h⟩ := bsS h
      refine ux_calli (va_runV (As := [.int x1, .int v5, .int x3]) (rest := []) ⟨hx, hb, hml, hown, hts⟩ (tX12_keepsFrom l dC dI cy ad σ3 x1 v5 x3 H.size r6 σ7 hf8) (cwV 3 hts gX12_tellsFrom_X12_keepsFrom rfl rfl rfl (by decide +kernel) ⟨by show 76 + 1 ≤ 77 + (d + 1); omega, by show 8 + (5 + 11) + 1795 ≤ 1819 + 24 * (d + 1); omega⟩) (wp_V hK hN hP hD (va_recv hK hP (ci := 12) (q0 := 0) rfl (wG_of (Nat.le_of_ble_eq_true rfl) rfl))) rfl rfl hl.1 rfl (lv_room (Nat.le_of_ble_eq_true rfl)) dX12_tellsFrom_42 ⟨Nat.le_of_ble_eq_true rfl, Nat.le_of_ble_eq_true rfl⟩) hD hS hA (fun H locs hP hD hS => ?_)
      refine lv_istore (lv' := [(4, .int r6), (0, .ref (ad 0)), (1, .int x1), (2, .int x2), (3, .int x3)]) hx hb dX12_tellsFrom_45 hl (by decide) rfl (fun ls hl => ?_)
      have hl := lv_sub hl [1, 2, 3, 4, 0] (l' := [(0, .ref (ad 0)), (1, .int x1), (2, .int x2), (3, .int x3), (4, .int r6)]) rfl
      refine lv_iload hx hb dX12_tellsFrom_47 (lv_at hl 4 rfl) ?_
      refine lv_aload_n hx hb dX12_tellsFrom_49 rfl (lv_at hl 0 rfl) ?_
      refine lv_iload_n hx hb dX12_tellsFrom_50 rfl (lv_at hl 1 rfl) ?_
      refine lv_aload_n hx hb dX12_tellsFrom_51 rfl (lv_at hl 0 rfl) ?_
      refine ux_get (D := (dC, dI)) (ci := 12) (v := .ref (ad 5)) (C := RX12) (T := TX12) (M := 59) (fs := (oM ad (σ7.1 0))) hx hb hts (fun _ h9 => List.mem_cons_of_mem _ (List.mem_append_right _ h9)) hown hK hP 0 (Nat.le_of_ble_eq_true rfl) rfl rfl 6 (by decide) (hts (.fieldLink RX12 22 "SeatsRoundModel" "kind" "[I") (List.mem_of_getElem? (i := 1) rfl)) (fun _ h9 => h9) rfl dX12_tellsFrom_52 ?_
      refine lv_iload_n hx hb dX12_tellsFrom_55 rfl (lv_at hl 1 rfl) ?_
      refine ux_iald hx hb hK hP 5 0 (Nat.le_of_ble_eq_true rfl) (cM_5 _ _ _ _) rfl h dX12_tellsFrom_56 (fun v9 h => ?_)
      change W _ _ _ _ _ _ _ _ _ _ _ _ _ _ _ (F0 m 57 ls [.int v9, .int x1, .ref (ad 0), .int r6])
      refine lv_iconst (v := 1) hx hb dX12_tellsFrom_57 (by decide) ?_
      obtain ⟨r10, σ11, hf12, h⟩ := bsS h
      refine ux_calli (va_runV (As := [.int x1, .int v9, .int 1]) (rest := [.int r6]) ⟨hx, hb, hml, hown, hts⟩ (tX12_movesFrom l dC dI cy ad σ7 x1 v9 1 H.size r10 σ11 hf12) (cwV 3 hts gX12_tellsFrom_X12_movesFrom rfl rfl rfl (by decide +kernel) ⟨by show 51 + 1 ≤ 77 + (d + 1); omega, by show 8 + (5 + 11) + 1195 ≤ 1819 + 24 * (d + 1); omega⟩) (wp_V hK hN hP hD (va_recv hK hP (ci := 12) (q0 := 0) rfl (wG_of (Nat.le_of_ble_eq_true rfl) rfl))) rfl rfl hl.1 rfl (lv_room (Nat.le_of_ble_eq_true rfl)) dX12_tellsFrom_58 ⟨Nat.le_of_ble_eq_true rfl, Nat.le_of_ble_eq_true rfl⟩) hD hS hA (fun H locs hP hD hS => ?_)
      refine lv_isub hx hb dX12_tellsFrom_61 ?_
      exact ux_iret hx hb hr h hP hD hS hlocks dX12_tellsFrom_62
    · have h := cdN hcd1 h
      by_cases hcd13 : x2 = 4
      · have h := cdP hcd13 h
        refine lv_lookup (off := 62) (tgt := 63) hx hb dX12_tellsFrom_1 (by decide) (by rw [hcd13]; decide) (by decide) ?_
        refine lv_aload_n hx hb dX12_tellsFrom_63 rfl (lv_at hl 0 rfl) ?_
        refine lv_bipush (v := 50) hx hb dX12_tellsFrom_64 (by decide) ?_
        obtain ⟨r14, σ15, hf16, h⟩ := bsS h
        refine ux_callv (va_runV (As := [.int 50]) (rest := []) ⟨hx, hb, hml, hown, hts⟩ (tX12_begins l dC dI cy ad σ 50 H.size r14 σ15 hf16) (cwV 1 hts gX12_tellsFrom_X12_begins rfl rfl rfl (by decide +kernel) ⟨by show 1 + 1 ≤ 77 + (d + 1); omega, by show 8 + (2 + 11) + 23 ≤ 1819 + 24 * (d + 1); omega⟩) (wp_V hK hN hP hD (va_recv hK hP (ci := 12) (q0 := 0) rfl (wG_of (Nat.le_of_ble_eq_true rfl) rfl))) rfl rfl hl.1 rfl (lv_room (Nat.le_of_ble_eq_true rfl)) dX12_tellsFrom_66 ⟨Nat.le_of_ble_eq_true rfl, Nat.le_of_ble_eq_true rfl⟩) hD hS hA (fun H locs hP hD hS => ?_)
        refine lv_aload_n hx hb dX12_tellsFrom_69 rfl (lv_at hl 0 rfl) ?_
        refine lv_iload_n hx hb dX12_tellsFrom_70 rfl (lv_at hl 1 rfl) ?_
        refine lv_iconst (v := 0) hx hb dX12_tellsFrom_71 (by decide) ?_
        refine lv_iload_n hx hb dX12_tellsFrom_72 rfl (lv_at hl 3 rfl) ?_
        obtain ⟨r17, σ18, hf19, h⟩ := bsS h
        refine ux_calli (va_runV (As := [.int x1, .int 0, .int x3]) (rest := []) ⟨hx, hb, hml, hown, hts⟩ (hqX12_tellsFrom σ15 x1 0 x3 H.size r17 σ18 hf19) (cwV 3 hts gX12_tellsFrom_X12_tellsFrom rfl rfl rfl (by decide +kernel) ⟨by show (77 + d) + 1 ≤ 77 + (d + 1); omega, by show 8 + (5 + 11) + (1819 + 24 * d) ≤ 1819 + 24 * (d + 1); omega⟩) (wp_V hK hN hP hD (va_recv hK hP (ci := 12) (q0 := 0) rfl (wG_of (Nat.le_of_ble_eq_true rfl) rfl))) rfl rfl hl.1 rfl (lv_room (Nat.le_of_ble_eq_true rfl)) dX12_tellsFrom_73 ⟨Nat.le_of_ble_eq_true rfl, Nat.le_of_ble_eq_true rfl⟩) hD hS hA (fun H locs hP hD hS => ?_)
        refine lv_bipush (v := 9) hx hb dX12_tellsFrom_76 (by decide) ?_
        refine lv_ixor hx hb dX12_tellsFrom_78 ?_
        exact ux_iret hx hb hr h hP hD hS hlocks dX12_tellsFrom_79
      · have h := cdN hcd13 h
        refine lv_lookup (off := 79) (tgt := 80) hx hb dX12_tellsFrom_1 (by decide) ((lv_osw hcd1 (by decide)).trans ((lv_osw hcd13 (by decide)).trans rfl)) (by decide) ?_
        refine lv_aload_n hx hb dX12_tellsFrom_80 rfl (lv_at hl 0 rfl) ?_
        refine lv_iload_n hx hb dX12_tellsFrom_81 rfl (lv_at hl 1 rfl) ?_
        refine lv_iload_n hx hb dX12_tellsFrom_82 rfl (lv_at hl 2 rfl) ?_
        obtain ⟨r20, hf21, h⟩ := biS h
        refine ux_calli (va_runS (As := [.int x2]) (rest := [.int x1, .ref (ad 0)]) ⟨hx, hb, hml, hown, hts⟩ (tX12_aboveOf l dC dI cy ad σ x2 H.size r20 hf21) (va_cwS 1 hts gX12_tellsFrom_X12_aboveOf rfl rfl rfl (by decide +kernel) ⟨by show 1 + 1 ≤ 77 + (d + 1); omega, by show 8 + (1 + 11) + 23 ≤ 1819 + 24 * (d + 1); omega⟩) (wp_S hK hN hP hD) rfl rfl hl.1 rfl (lv_room (Nat.le_of_ble_eq_true rfl)) dX12_tellsFrom_83 ⟨Nat.le_of_ble_eq_true rfl, Nat.le_of_ble_eq_true rfl⟩) hD hS hA (fun H locs hP hD hS => ?_)
        refine lv_iload_n hx hb dX12_tellsFrom_86 rfl (lv_at hl 3 rfl) ?_
        obtain ⟨r22, σ23, hf24, h⟩ := bsS h
        refine ux_calli (va_runV (As := [.int x1, .int r20, .int x3]) (rest := []) ⟨hx, hb, hml, hown, hts⟩ (hqX12_tellsFrom σ x1 r20 x3 H.size r22 σ23 hf24) (cwV 3 hts gX12_tellsFrom_X12_tellsFrom rfl rfl rfl (by decide +kernel) ⟨by show (77 + d) + 1 ≤ 77 + (d + 1); omega, by show 8 + (5 + 11) + (1819 + 24 * d) ≤ 1819 + 24 * (d + 1); omega⟩) (wp_V hK hN hP hD (va_recv hK hP (ci := 12) (q0 := 0) rfl (wG_of (Nat.le_of_ble_eq_true rfl) rfl))) rfl rfl hl.1 rfl (lv_room (Nat.le_of_ble_eq_true rfl)) dX12_tellsFrom_87 ⟨Nat.le_of_ble_eq_true rfl, Nat.le_of_ble_eq_true rfl⟩) hD hS hA (fun H locs hP hD hS => ?_)
        exact ux_iret hx hb hr h hP hD hS hlocks dX12_tellsFrom_90
  intro H locs ls h hP hD hS hl
  exact w0 σ a1 a2 a3 H locs ls h hP hD hS (lv_sub hl [0, 1, 2, 3] rfl)

set_option maxRecDepth 100000 in
theorem gGX12_tellsFrom (l : Launch) (dC : Nat → ClassId) (dI : Nat → Nat → Nat) (cy : Nat → ClassId) (ad : Nat → Nat) (d : Nat) : (∀ (σ : S2) (a1 : Int32) (a2 : Int32) (a3 : Int32) (sz : Nat) (r0 : Int32) (σ9 : S2), GX12_tellsFrom d 0 σ a1 a2 a3 = some (r0, σ9) → Met l yX12_tellsFrom wsX12_tellsFrom ({ frames := 77 + d, cells := 0, slots := 0, locals := 1819 + 24 * d }) (va_Pc [.ref (ad 0), .int a1, .int a2, .int a3] (wPre (dC, dI) cy (wG (cM cy ad) ad 40 σ) sz)) (va_Qi (fun (r : Int32) (_ : Unit) => r = r0) (fun (_ : Unit) t => wAt (dC, dI) (va_A (wG (cM cy ad) ad 40 σ) sz) (wG (cM cy ad) ad 40 σ9) t) (va_A (wG (cM cy ad) ad 40 σ) sz)) 0 0 (va_A (wG (cM cy ad) ad 40 σ) sz)) := by
  induction d with
  | zero => exact (by intros; contradiction)
  | succ d ih =>
    exact (fun σ a1 a2 a3 sz r0 σ9 h => uX12_tellsFrom l dC dI cy ad d _ (ih) σ a1 a2 a3 sz r0 σ9 h)

theorem tX12_tellsFrom (l : Launch) (dC : Nat → ClassId) (dI : Nat → Nat → Nat) (cy : Nat → ClassId) (ad : Nat → Nat) : ∀ (σ : S2) (a1 : Int32) (a2 : Int32) (a3 : Int32) (sz : Nat) (r0 : Int32) (σ9 : S2), fX12_tellsFrom σ a1 a2 a3 = some (r0, σ9) → Met l yX12_tellsFrom wsX12_tellsFrom ({ frames := 101, cells := 0, slots := 0, locals := 2395 }) (va_Pc [.ref (ad 0), .int a1, .int a2, .int a3] (wPre (dC, dI) cy (wG (cM cy ad) ad 40 σ) sz)) (va_Qi (fun (r : Int32) (_ : Unit) => r = r0) (fun (_ : Unit) t => wAt (dC, dI) (va_A (wG (cM cy ad) ad 40 σ) sz) (wG (cM cy ad) ad 40 σ9) t) (va_A (wG (cM cy ad) ad 40 σ) sz)) 0 0 (va_A (wG (cM cy ad) ad 40 σ) sz) := (gGX12_tellsFrom l dC dI cy ad 24)

set_option maxHeartbeats 4000000 in
set_option maxRecDepth 100000 in
theorem tX12_act (l : Launch) (dC : Nat → ClassId) (dI : Nat → Nat → Nat) (cy : Nat → ClassId) (ad : Nat → Nat) (σ : S2) (a1 : Int32) (a2 : Int32) (a3 : Int32) (sz : Nat) (r0 : Int32) (σ9 : S2) (h : fX12_act σ a1 a2 a3 = some (r0, σ9)) : Met l yX12_act wsX12_act ({ frames := 102, cells := 0, slots := 0, locals := 2419 }) (va_Pc [.ref (ad 0), .int a1, .int a2, .int a3] (wPre (dC, dI) cy (wG (cM cy ad) ad 40 σ) sz)) (va_Qi (fun (r : Int32) (_ : Unit) => r = r0) (fun (_ : Unit) t => wAt (dC, dI) (va_A (wG (cM cy ad) ad 40 σ) sz) (wG (cM cy ad) ad 40 σ9) t) (va_A (wG (cM cy ad) ad 40 σ) sz)) 0 0 (va_A (wG (cM cy ad) ad 40 σ) sz) := by
  refine Met.ofW (cc := cX12_act) (maxL := 5) (ret := (some .int)) (by decide) rfl ?_
  intro p e s m args below meth c s₁ B hml hv
  obtain ⟨rfl, hsz, hP, hK, hD0, hN⟩ := hv
  have hx := B.exec
  have hb := B.bytes
  have hr := B.returns
  have hts := atoms_spec (ws := wsX12_act) B.pre
  have hown : s.vm.findClass RX12 = some m.cls := findClass_of_methodNamed B.named
  have hlocks := B.notSynchronized
  subst hsz
  have hD := hD0.self (sz := s.heap.size)
  generalize hAe : va_A (wG (cM cy ad) ad 40 σ) s.heap.size = A at hD ⊢
  have hA : ∀ q : Nat, s.heap.size ≤ q → A q := fun q h => by rw [← hAe]; exact Or.inr h
  have hS : va_S A s.heap s.heap [] := va_S.rf
  have hl := lv_entry ([.ref (ad 0), .int a1, .int a2, .int a3]) (n := 5) (Nat.le_of_ble_eq_true rfl)
  rw [lg_entry_eq]
  generalize (lg_sl ([.ref (ad 0), .int a1, .int a2, .int a3]) ++ List.replicate (5 - (lg_sl ([.ref (ad 0), .int a1, .int a2, .int a3])).length) Slot.unset).toArray = ls at hl ⊢
  have hl : lv_has ls 5 [(0, .ref (ad 0)), (1, .int a1), (2, .int a2), (3, .int a3)] := hl
  unfold fX12_act at h
  clear hAe hD0
  suffices HH : ∀ (H : Heap) (locs : List Loc) (ls : Array Slot), fX12_act_0 σ a1 a2 a3 = some (r0, σ9) → va_P (dC, dI) vwCl (wG (cM cy ad) ad 40 σ) H → va_D A (wG (cM cy ad) ad 40 σ) → va_S A s.heap H locs → lv_has ls 5 [(0, .ref (ad 0)), (1, .int a1), (2, .int a2), (3, .int a3)] → W p l e (headSpec wsX12_act ({ frames := 102, cells := 0, slots := 0, locals := 2419 })).room s m (#[.ref (ad 0), .int a1, .int a2, .int a3]) below meth c H locs 0 0 (MQ below (va_Qi (fun (r : Int32) (_ : Unit) => r = r0) (fun (_ : Unit) t => wAt (dC, dI) A (wG (cM cy ad) ad 40 σ9) t) A) (#[.ref (ad 0), .int a1, .int a2, .int a3]) s 0 0 A) (F0 m 0 ls []) from HH s.heap [] ls h hP hD hS hl
  have w0 : ∀ (σ : S2) (x1 : Int32) (x2 : Int32) (x3 : Int32) (H : Heap) (locs : List Loc) (ls : Array Slot), fX12_act_0 σ x1 x2 x3 = some (r0, σ9) → va_P (dC, dI) vwCl (wG (cM cy ad) ad 40 σ) H → va_D A (wG (cM cy ad) ad 40 σ) → va_S A s.heap H locs → lv_has ls 5 [(0, .ref (ad 0)), (1, .int x1), (2, .int x2), (3, .int x3)] → W p l e (headSpec wsX12_act ({ frames := 102, cells := 0, slots := 0, locals := 2419 })).room s m (#[.ref (ad 0), .int a1, .int a2, .int a3]) below meth c H locs 0 0 (MQ below (va_Qi (fun (r : Int32) (_ : Unit) => r = r0) (fun (_ : Unit) t => wAt (dC, dI) A (wG (cM cy ad) ad 40 σ9) t) A) (#[.ref (ad 0), .int a1, .int a2, .int a3]) s 0 0 A) (F0 m 0 ls []) := by
    intro σ x1 x2 x3 H locs ls h hP hD hS hl
    unfold fX12_act_0 at h
    refine lv_aload_n hx hb dX12_act_0 rfl (lv_at hl 0 rfl) ?_
    refine lv_iconst (v := 0) hx hb dX12_act_1 (by decide) ?_
    refine ux_put (D := (dC, dI)) (ci := 12) (C := RX12) (T := TX12) (M := 59) (fs := (oM ad (σ.1 0))) hx hb hts (fun _ h9 => List.mem_cons_of_mem _ (List.mem_append_right _ h9)) tyX12 tyX12_ok nmX12 hown hK hP hD hS 0 (Nat.le_of_ble_eq_true rfl) rfl rfl 38 (by decide) (hts (.fieldLink RX12 334 "SeatsRoundModel" "bodies" "I") (List.mem_of_getElem? (i := 1) rfl)) (fun _ h9 => h9) rfl (tyX12_ok 38 (by decide)) rfl rfl (Nat.le_of_ble_eq_true rfl) (oM_set_38 _ _ _ _ _) h dX12_act_2 (fun σ1 H locs h hP hD hS => ?_)
    refine lv_aload_n hx hb dX12_act_5 rfl (lv_at hl 0 rfl) ?_
    refine lv_iload_n hx hb dX12_act_6 rfl (lv_at hl 1 rfl) ?_
    obtain ⟨r2, hf3, h⟩ := biS h
    refine ux_calli (va_runV (As := [.int x1]) (rest := []) ⟨hx, hb, hml, hown, hts⟩ (tX12_isKeeper l dC dI cy ad σ1 x1 H.size r2 hf3) (cwV 1 hts gX12_act_X12_isKeeper rfl rfl rfl (by decide +kernel) ⟨Nat.le_of_ble_eq_true rfl, Nat.le_of_ble_eq_true rfl⟩) (wp_V hK hN hP hD (va_recv hK hP (ci := 12) (q0 := 0) rfl (wG_of (Nat.le_of_ble_eq_true rfl) rfl))) rfl rfl hl.1 rfl (lv_room (Nat.le_of_ble_eq_true rfl)) dX12_act_7 ⟨Nat.le_of_ble_eq_true rfl, Nat.le_of_ble_eq_true rfl⟩) hD hS hA (fun H locs hP hD hS => ?_)
    refine lv_if_eq (tgt := 22) hx hb dX12_act_10 (by decide) (fun hcd => ?_) (fun hcd => ?_)
    · have h := cdP hcd h
      refine lv_iconst (v := 0) hx hb dX12_act_22 (by decide) ?_
      exact ux_iret hx hb hr h hP hD hS hlocks dX12_act_23
    · have h := cdN hcd h
      refine lv_iload_n hx hb dX12_act_13 rfl (lv_at hl 2 rfl) ?_
      refine lv_iconst (v := 0) hx hb dX12_act_14 (by decide) ?_
      refine lv_iconst (v := 3) hx hb dX12_act_15 (by decide) ?_
      obtain ⟨r4, hf5, h⟩ := biS h
      refine ux_calli (va_runS (As := [.int x2, .int 0, .int 3]) (rest := []) ⟨hx, hb, hml, hown, hts⟩ (tX12_in l dC dI cy ad σ1 x2 0 3 H.size r4 hf5) (va_cwS 3 hts gX12_act_X12_in rfl rfl rfl (by decide +kernel) ⟨Nat.le_of_ble_eq_true rfl, Nat.le_of_ble_eq_true rfl⟩) (wp_S hK hN hP hD) rfl rfl hl.1 rfl (lv_room (Nat.le_of_ble_eq_true rfl)) dX12_act_16 ⟨Nat.le_of_ble_eq_true rfl, Nat.le_of_ble_eq_true rfl⟩) hD hS hA (fun H locs hP hD hS => ?_)
      refine lv_if_ne (tgt := 24) hx hb dX12_act_19 (by decide) (fun hcd => ?_) (fun hcd => ?_)
      · have h := cdN hcd h
        refine lv_aload_n hx hb dX12_act_24 rfl (lv_at hl 0 rfl) ?_
        refine ux_get (D := (dC, dI)) (ci := 12) (v := .ref (ad 5)) (C := RX12) (T := TX12) (M := 59) (fs := (oM ad (σ1.1 0))) hx hb hts (fun _ h9 => List.mem_cons_of_mem _ (List.mem_append_right _ h9)) hown hK hP 0 (Nat.le_of_ble_eq_true rfl) rfl rfl 6 (by decide) (hts (.fieldLink RX12 22 "SeatsRoundModel" "kind" "[I") (List.mem_of_getElem? (i := 2) rfl)) (fun _ h9 => h9) rfl dX12_act_25 ?_
        refine lv_iload_n hx hb dX12_act_28 rfl (lv_at hl 1 rfl) ?_
        refine ux_iald hx hb hK hP 5 0 (Nat.le_of_ble_eq_true rfl) (cM_5 _ _ _ _) rfl h dX12_act_29 (fun v6 h => ?_)
        refine lv_istore (lv' := [(4, .int v6), (0, .ref (ad 0)), (1, .int x1), (2, .int x2), (3, .int x3)]) hx hb dX12_act_30 hl (by decide) rfl (fun ls hl => ?_)
        have hl := lv_sub hl [1, 2, 3, 4, 0] (l' := [(0, .ref (ad 0)), (1, .int x1), (2, .int x2), (3, .int x3), (4, .int v6)]) rfl
        refine lv_iload_n hx hb dX12_act_32 rfl (lv_at hl 2 rfl) ?_
        refine lv_if_ne (tgt := 47) hx hb dX12_act_33 (by decide) (fun hcd => ?_) (fun hcd => ?_)
        · have h := cdN hcd h
          refine lv_iload_n hx hb dX12_act_47 rfl (lv_at hl 2 rfl) ?_
          refine lv_iconst (v := 1) hx hb dX12_act_48 (by decide) ?_
          refine lv_icmp_ne (tgt := 63) hx hb dX12_act_49 (by decide) (fun hcd => ?_) (fun hcd => ?_)
          · have h := cdN hcd h
            refine lv_iload_n hx hb dX12_act_63 rfl (lv_at hl 2 rfl) ?_
            refine lv_iconst (v := 2) hx hb dX12_act_64 (by decide) ?_
            refine lv_icmp_ne (tgt := 79) hx hb dX12_act_65 (by decide) (fun hcd => ?_) (fun hcd => ?_)
            · have h := cdN hcd h
              refine lv_aload_n hx hb dX12_act_79 rfl (lv_at hl 0 rfl) ?_
              refine lv_iload_n hx hb dX12_act_80 rfl (lv_at hl 1 rfl) ?_
              refine lv_iload hx hb dX12_act_81 (lv_at hl 4 rfl) ?_
              refine lv_iload_n hx hb dX12_act_83 rfl (lv_at hl 3 rfl) ?_
              obtain ⟨r7, σ8, hf9, h⟩ := bsS h
              refine ux_calli (va_runV (As := [.int x1, .int v6, .int x3]) (rest := []) ⟨hx, hb, hml, hown, hts⟩ (tX12_tellsFrom l dC dI cy ad σ1 x1 v6 x3 H.size r7 σ8 hf9) (cwV 3 hts gX12_act_X12_tellsFrom rfl rfl rfl (by decide +kernel) ⟨Nat.le_of_ble_eq_true rfl, Nat.le_of_ble_eq_true rfl⟩) (wp_V hK hN hP hD (va_recv hK hP (ci := 12) (q0 := 0) rfl (wG_of (Nat.le_of_ble_eq_true rfl) rfl))) rfl rfl hl.1 rfl (lv_room (Nat.le_of_ble_eq_true rfl)) dX12_act_84 ⟨Nat.le_of_ble_eq_true rfl, Nat.le_of_ble_eq_true rfl⟩) hD hS hA (fun H locs hP hD hS => ?_)
              exact ux_iret hx hb hr h hP hD hS hlocks dX12_act_87
            · have h := cdP hcd h
              refine lv_aload_n hx hb dX12_act_68 rfl (lv_at hl 0 rfl) ?_
              refine lv_iload_n hx hb dX12_act_69 rfl (lv_at hl 1 rfl) ?_
              refine lv_iload hx hb dX12_act_70 (lv_at hl 4 rfl) ?_
              refine lv_iload_n hx hb dX12_act_72 rfl (lv_at hl 3 rfl) ?_
              obtain ⟨r10, σ11, hf12, h⟩ := bsS h
              refine ux_calli (va_runV (As := [.int x1, .int v6, .int x3]) (rest := []) ⟨hx, hb, hml, hown, hts⟩ (tX12_movesFrom l dC dI cy ad σ1 x1 v6 x3 H.size r10 σ11 hf12) (cwV 3 hts gX12_act_X12_movesFrom rfl rfl rfl (by decide +kernel) ⟨Nat.le_of_ble_eq_true rfl, Nat.le_of_ble_eq_true rfl⟩) (wp_V hK hN hP hD (va_recv hK hP (ci := 12) (q0 := 0) rfl (wG_of (Nat.le_of_ble_eq_true rfl) rfl))) rfl rfl hl.1 rfl (lv_room (Nat.le_of_ble_eq_true rfl)) dX12_act_73 ⟨Nat.le_of_ble_eq_true rfl, Nat.le_of_ble_eq_true rfl⟩) hD hS hA (fun H locs hP hD hS => ?_)
              refine lv_goto (tgt := 87) hx hb dX12_act_76 (by decide) ?_
              exact ux_iret hx hb hr h hP hD hS hlocks dX12_act_87
          · have h := cdP hcd h
            refine lv_aload_n hx hb dX12_act_52 rfl (lv_at hl 0 rfl) ?_
            refine lv_iload_n hx hb dX12_act_53 rfl (lv_at hl 1 rfl) ?_
            refine lv_iload hx hb dX12_act_54 (lv_at hl 4 rfl) ?_
            refine lv_iload_n hx hb dX12_act_56 rfl (lv_at hl 3 rfl) ?_
            obtain ⟨r13, σ14, hf15, h⟩ := bsS h
            refine ux_calli (va_runV (As := [.int x1, .int v6, .int x3]) (rest := []) ⟨hx, hb, hml, hown, hts⟩ (tX12_keepsFrom l dC dI cy ad σ1 x1 v6 x3 H.size r13 σ14 hf15) (cwV 3 hts gX12_act_X12_keepsFrom rfl rfl rfl (by decide +kernel) ⟨Nat.le_of_ble_eq_true rfl, Nat.le_of_ble_eq_true rfl⟩) (wp_V hK hN hP hD (va_recv hK hP (ci := 12) (q0 := 0) rfl (wG_of (Nat.le_of_ble_eq_true rfl) rfl))) rfl rfl hl.1 rfl (lv_room (Nat.le_of_ble_eq_true rfl)) dX12_act_57 ⟨Nat.le_of_ble_eq_true rfl, Nat.le_of_ble_eq_true rfl⟩) hD hS hA (fun H locs hP hD hS => ?_)
            refine lv_goto (tgt := 87) hx hb dX12_act_60 (by decide) ?_
            exact ux_iret hx hb hr h hP hD hS hlocks dX12_act_87
        · have h := cdP hcd h
          refine lv_aload_n hx hb dX12_act_36 rfl (lv_at hl 0 rfl) ?_
          refine lv_iload_n hx hb dX12_act_37 rfl (lv_at hl 1 rfl) ?_
          refine lv_iload hx hb dX12_act_38 (lv_at hl 4 rfl) ?_
          refine lv_iload_n hx hb dX12_act_40 rfl (lv_at hl 3 rfl) ?_
          obtain ⟨r16, σ17, hf18, h⟩ := bsS h
          refine ux_calli (va_runV (As := [.int x1, .int v6, .int x3]) (rest := []) ⟨hx, hb, hml, hown, hts⟩ (tX12_findsFrom l dC dI cy ad σ1 x1 v6 x3 H.size r16 σ17 hf18) (cwV 3 hts gX12_act_X12_findsFrom rfl rfl rfl (by decide +kernel) ⟨Nat.le_of_ble_eq_true rfl, Nat.le_of_ble_eq_true rfl⟩) (wp_V hK hN hP hD (va_recv hK hP (ci := 12) (q0 := 0) rfl (wG_of (Nat.le_of_ble_eq_true rfl) rfl))) rfl rfl hl.1 rfl (lv_room (Nat.le_of_ble_eq_true rfl)) dX12_act_41 ⟨Nat.le_of_ble_eq_true rfl, Nat.le_of_ble_eq_true rfl⟩) hD hS hA (fun H locs hP hD hS => ?_)
          refine lv_goto (tgt := 87) hx hb dX12_act_44 (by decide) ?_
          exact ux_iret hx hb hr h hP hD hS hlocks dX12_act_87
      · have h := cdP hcd h
        refine lv_iconst (v := 0) hx hb dX12_act_22 (by decide) ?_
        exact ux_iret hx hb hr h hP hD hS hlocks dX12_act_23
  intro H locs ls h hP hD hS hl
  exact w0 σ a1 a2 a3 H locs ls h hP hD hS (lv_sub hl [0, 1, 2, 3] rfl)

set_option maxHeartbeats 4000000 in
set_option maxRecDepth 100000 in
theorem tX12_trace (l : Launch) (dC : Nat → ClassId) (dI : Nat → Nat → Nat) (cy : Nat → ClassId) (ad : Nat → Nat) (σ : S2) (a1 : Int32) (sz : Nat) (r0 : Int32) (h : fX12_trace σ a1 = some r0) : Met l yX12_trace wsX12_trace ({ frames := 1, cells := 0, slots := 0, locals := 23 }) (va_Pc [.ref (ad 0), .int a1] (wPre (dC, dI) cy (wG (cM cy ad) ad 40 σ) sz)) (va_Qi (fun (r : Int32) (_ : Unit) => r = r0) (fun (_ : Unit) t => wAt (dC, dI) (va_A (wG (cM cy ad) ad 40 σ) sz) (wG (cM cy ad) ad 40 σ) t) (va_A (wG (cM cy ad) ad 40 σ) sz)) 0 0 (va_A (wG (cM cy ad) ad 40 σ) sz) := by
  refine Met.ofW (cc := cX12_trace) (maxL := 2) (ret := (some .int)) (by decide) rfl ?_
  intro p e s m args below meth c s₁ B hml hv
  obtain ⟨rfl, hsz, hP, hK, hD0, hN⟩ := hv
  have hx := B.exec
  have hb := B.bytes
  have hr := B.returns
  have hts := atoms_spec (ws := wsX12_trace) B.pre
  have hown : s.vm.findClass RX12 = some m.cls := findClass_of_methodNamed B.named
  have hlocks := B.notSynchronized
  subst hsz
  have hD := hD0.self (sz := s.heap.size)
  generalize hAe : va_A (wG (cM cy ad) ad 40 σ) s.heap.size = A at hD ⊢
  have hA : ∀ q : Nat, s.heap.size ≤ q → A q := fun q h => by rw [← hAe]; exact Or.inr h
  have hS : va_S A s.heap s.heap [] := va_S.rf
  have hl := lv_entry ([.ref (ad 0), .int a1]) (n := 2) (Nat.le_of_ble_eq_true rfl)
  rw [lg_entry_eq]
  generalize (lg_sl ([.ref (ad 0), .int a1]) ++ List.replicate (2 - (lg_sl ([.ref (ad 0), .int a1])).length) Slot.unset).toArray = ls at hl ⊢
  have hl : lv_has ls 2 [(0, .ref (ad 0)), (1, .int a1)] := hl
  unfold fX12_trace at h
  clear hAe hD0
  suffices HH : ∀ (H : Heap) (locs : List Loc) (ls : Array Slot), fX12_trace_0 σ a1 = some r0 → va_P (dC, dI) vwCl (wG (cM cy ad) ad 40 σ) H → va_D A (wG (cM cy ad) ad 40 σ) → va_S A s.heap H locs → lv_has ls 2 [(0, .ref (ad 0)), (1, .int a1)] → W p l e (headSpec wsX12_trace ({ frames := 1, cells := 0, slots := 0, locals := 23 })).room s m (#[.ref (ad 0), .int a1]) below meth c H locs 0 0 (MQ below (va_Qi (fun (r : Int32) (_ : Unit) => r = r0) (fun (_ : Unit) t => wAt (dC, dI) A (wG (cM cy ad) ad 40 σ) t) A) (#[.ref (ad 0), .int a1]) s 0 0 A) (F0 m 0 ls []) from HH s.heap [] ls h hP hD hS hl
  have w0 : ∀ (σ : S2) (x1 : Int32) (H : Heap) (locs : List Loc) (ls : Array Slot), fX12_trace_0 σ x1 = some r0 → va_P (dC, dI) vwCl (wG (cM cy ad) ad 40 σ) H → va_D A (wG (cM cy ad) ad 40 σ) → va_S A s.heap H locs → lv_has ls 2 [(0, .ref (ad 0)), (1, .int x1)] → W p l e (headSpec wsX12_trace ({ frames := 1, cells := 0, slots := 0, locals := 23 })).room s m (#[.ref (ad 0), .int a1]) below meth c H locs 0 0 (MQ below (va_Qi (fun (r : Int32) (_ : Unit) => r = r0) (fun (_ : Unit) t => wAt (dC, dI) A (wG (cM cy ad) ad 40 σ) t) A) (#[.ref (ad 0), .int a1]) s 0 0 A) (F0 m 0 ls []) := by
    intro σ x1 H locs ls h hP hD hS hl
    unfold fX12_trace_0 at h
    refine lv_iload_n hx hb dX12_trace_0 rfl (lv_at hl 1 rfl) ?_
    refine lv_if_lt (tgt := 27) hx hb dX12_trace_1 (by decide) (fun hcd => ?_) (fun hcd => ?_)
    · have h := cdP hcd h
      refine lv_iconst (v := (-1)) hx hb dX12_trace_27 (by decide) ?_
      exact ux_iretP hx hb hr h hP hD hS hlocks dX12_trace_28
    · have h := cdN hcd h
      refine lv_iload_n hx hb dX12_trace_4 rfl (lv_at hl 1 rfl) ?_
      refine lv_aload_n hx hb dX12_trace_5 rfl (lv_at hl 0 rfl) ?_
      refine ux_get (D := (dC, dI)) (ci := 12) (v := .int (σ.1 0 38)) (C := RX12) (T := TX12) (M := 59) (fs := (oM ad (σ.1 0))) hx hb hts (fun _ h9 => List.mem_cons_of_mem _ (List.mem_append_right _ h9)) hown hK hP 0 (Nat.le_of_ble_eq_true rfl) rfl rfl 38 (by decide) (hts (.fieldLink RX12 334 "SeatsRoundModel" "bodies" "I") (List.mem_of_getElem? (i := 1) rfl)) (fun _ h9 => h9) rfl dX12_trace_6 ?_
      refine lv_icmp_ge (tgt := 27) hx hb dX12_trace_9 (by decide) (fun hcd => ?_) (fun hcd => ?_)
      · have h := cdP hcd h
        refine lv_iconst (v := (-1)) hx hb dX12_trace_27 (by decide) ?_
        exact ux_iretP hx hb hr h hP hD hS hlocks dX12_trace_28
      · have h := cdN hcd h
        refine lv_iload_n hx hb dX12_trace_12 rfl (lv_at hl 1 rfl) ?_
        refine lv_bipush (v := 24) hx hb dX12_trace_13 (by decide) ?_
        refine lv_icmp_ge (tgt := 27) hx hb dX12_trace_15 (by decide) (fun hcd => ?_) (fun hcd => ?_)
        · have h := cdP hcd h
          refine lv_iconst (v := (-1)) hx hb dX12_trace_27 (by decide) ?_
          exact ux_iretP hx hb hr h hP hD hS hlocks dX12_trace_28
        · have h := cdN hcd h
          refine lv_aload_n hx hb dX12_trace_18 rfl (lv_at hl 0 rfl) ?_
          refine ux_get (D := (dC, dI)) (ci := 12) (v := .ref (ad 29)) (C := RX12) (T := TX12) (M := 59) (fs := (oM ad (σ.1 0))) hx hb hts (fun _ h9 => List.mem_cons_of_mem _ (List.mem_append_right _ h9)) hown hK hP 0 (Nat.le_of_ble_eq_true rfl) rfl rfl 37 (by decide) (hts (.fieldLink RX12 99 "SeatsRoundModel" "trace" "[I") (List.mem_of_getElem? (i := 2) rfl)) (fun _ h9 => h9) rfl dX12_trace_19 ?_
          refine lv_iload_n hx hb dX12_trace_22 rfl (lv_at hl 1 rfl) ?_
          refine ux_iald hx hb hK hP 29 0 (Nat.le_of_ble_eq_true rfl) (cM_29 _ _ _ _) rfl h dX12_trace_23 (fun v1 h => ?_)
          refine lv_goto (tgt := 28) hx hb dX12_trace_24 (by decide) ?_
          exact ux_iretP hx hb hr h hP hD hS hlocks dX12_trace_28
  intro H locs ls h hP hD hS hl
  exact w0 σ a1 H locs ls h hP hD hS (lv_sub hl [0, 1] rfl)

set_option maxHeartbeats 4000000 in
set_option maxRecDepth 100000 in
theorem tX12_isShelf (l : Launch) (dC : Nat → ClassId) (dI : Nat → Nat → Nat) (cy : Nat → ClassId) (ad : Nat → Nat) (σ : S2) (a0 : Int32) (sz : Nat) (r0 : Int32) (h : fX12_isShelf σ a0 = some r0) : Met l yX12_isShelf wsX12_isShelf ({ frames := 2, cells := 0, slots := 0, locals := 45 }) (va_Pc [.int a0] (wPre (dC, dI) cy (wG (cM cy ad) ad 40 σ) sz)) (va_Qi (fun (r : Int32) (_ : Unit) => r = r0) (fun (_ : Unit) t => wAt (dC, dI) (va_A (wG (cM cy ad) ad 40 σ) sz) (wG (cM cy ad) ad 40 σ) t) (va_A (wG (cM cy ad) ad 40 σ) sz)) 0 0 (va_A (wG (cM cy ad) ad 40 σ) sz) := by
  refine Met.ofW (cc := cX12_isShelf) (maxL := 1) (ret := (some .boolean)) (by decide) rfl ?_
  intro p e s m args below meth c s₁ B hml hv
  obtain ⟨rfl, hsz, hP, hK, hD0, hN⟩ := hv
  have hx := B.exec
  have hb := B.bytes
  have hr := B.returns
  have hts := atoms_spec (ws := wsX12_isShelf) B.pre
  have hown : s.vm.findClass RX12 = some m.cls := findClass_of_methodNamed B.named
  have hlocks := B.notSynchronized
  subst hsz
  have hD := hD0.self (sz := s.heap.size)
  generalize hAe : va_A (wG (cM cy ad) ad 40 σ) s.heap.size = A at hD ⊢
  have hA : ∀ q : Nat, s.heap.size ≤ q → A q := fun q h => by rw [← hAe]; exact Or.inr h
  have hS : va_S A s.heap s.heap [] := va_S.rf
  have hl := lv_entry ([.int a0]) (n := 1) (Nat.le_of_ble_eq_true rfl)
  rw [lg_entry_eq]
  generalize (lg_sl ([.int a0]) ++ List.replicate (1 - (lg_sl ([.int a0])).length) Slot.unset).toArray = ls at hl ⊢
  have hl : lv_has ls 1 [(0, .int a0)] := hl
  unfold fX12_isShelf at h
  clear hAe hD0
  suffices HH : ∀ (H : Heap) (locs : List Loc) (ls : Array Slot), fX12_isShelf_0 σ a0 = some r0 → va_P (dC, dI) vwCl (wG (cM cy ad) ad 40 σ) H → va_D A (wG (cM cy ad) ad 40 σ) → va_S A s.heap H locs → lv_has ls 1 [(0, .int a0)] → W p l e (headSpec wsX12_isShelf ({ frames := 2, cells := 0, slots := 0, locals := 45 })).room s m (#[.int a0]) below meth c H locs 0 0 (MQ below (va_Qi (fun (r : Int32) (_ : Unit) => r = r0) (fun (_ : Unit) t => wAt (dC, dI) A (wG (cM cy ad) ad 40 σ) t) A) (#[.int a0]) s 0 0 A) (F0 m 0 ls []) from HH s.heap [] ls h hP hD hS hl
  have w0 : ∀ (σ : S2) (x0 : Int32) (H : Heap) (locs : List Loc) (ls : Array Slot), fX12_isShelf_0 σ x0 = some r0 → va_P (dC, dI) vwCl (wG (cM cy ad) ad 40 σ) H → va_D A (wG (cM cy ad) ad 40 σ) → va_S A s.heap H locs → lv_has ls 1 [(0, .int x0)] → W p l e (headSpec wsX12_isShelf ({ frames := 2, cells := 0, slots := 0, locals := 45 })).room s m (#[.int a0]) below meth c H locs 0 0 (MQ below (va_Qi (fun (r : Int32) (_ : Unit) => r = r0) (fun (_ : Unit) t => wAt (dC, dI) A (wG (cM cy ad) ad 40 σ) t) A) (#[.int a0]) s 0 0 A) (F0 m 0 ls []) := by
    intro σ x0 H locs ls h hP hD hS hl
    unfold fX12_isShelf_0 at h
    refine lv_iload_n hx hb dX12_isShelf_0 rfl (lv_at hl 0 rfl) ?_
    refine lv_iconst (v := 0) hx hb dX12_isShelf_1 (by decide) ?_
    refine lv_iconst (v := 5) hx hb dX12_isShelf_2 (by decide) ?_
    obtain ⟨r1, hf2, h⟩ := biS h
    refine ux_calli (va_runS (As := [.int x0, .int 0, .int 5]) (rest := []) ⟨hx, hb, hml, hown, hts⟩ (tX12_in l dC dI cy ad σ x0 0 5 H.size r1 hf2) (va_cwS 3 hts gX12_isShelf_X12_in rfl rfl rfl (by decide +kernel) ⟨Nat.le_of_ble_eq_true rfl, Nat.le_of_ble_eq_true rfl⟩) (wp_S hK hN hP hD) rfl rfl hl.1 rfl (lv_room (Nat.le_of_ble_eq_true rfl)) dX12_isShelf_3 ⟨Nat.le_of_ble_eq_true rfl, Nat.le_of_ble_eq_true rfl⟩) hD hS hA (fun H locs hP hD hS => ?_)
    obtain ⟨hz3, h⟩ := zbS h
    exact ux_zretP hx hb hr hz3 h hP hD hS hlocks dX12_isShelf_6
  intro H locs ls h hP hD hS hl
  exact w0 σ a0 H locs ls h hP hD hS (lv_sub hl [0] rfl)

set_option maxHeartbeats 4000000 in
set_option maxRecDepth 100000 in
theorem tX12_keep (l : Launch) (dC : Nat → ClassId) (dI : Nat → Nat → Nat) (cy : Nat → ClassId) (ad : Nat → Nat) (σ : S2) (a1 : Int32) (a2 : Int32) (sz : Nat) (r0 : Int32) (σ9 : S2) (h : fX12_keep σ a1 a2 = some (r0, σ9)) : Met l yX12_keep wsX12_keep ({ frames := 3, cells := 0, slots := 0, locals := 66 }) (va_Pc [.ref (ad 0), .int a1, .int a2] (wPre (dC, dI) cy (wG (cM cy ad) ad 40 σ) sz)) (va_Qi (fun (r : Int32) (_ : Unit) => r = r0) (fun (_ : Unit) t => wAt (dC, dI) (va_A (wG (cM cy ad) ad 40 σ) sz) (wG (cM cy ad) ad 40 σ9) t) (va_A (wG (cM cy ad) ad 40 σ) sz)) 0 0 (va_A (wG (cM cy ad) ad 40 σ) sz) := by
  refine Met.ofW (cc := cX12_keep) (maxL := 3) (ret := (some .int)) (by decide) rfl ?_
  intro p e s m args below meth c s₁ B hml hv
  obtain ⟨rfl, hsz, hP, hK, hD0, hN⟩ := hv
  have hx := B.exec
  have hb := B.bytes
  have hr := B.returns
  have hts := atoms_spec (ws := wsX12_keep) B.pre
  have hown : s.vm.findClass RX12 = some m.cls := findClass_of_methodNamed B.named
  have hlocks := B.notSynchronized
  subst hsz
  have hD := hD0.self (sz := s.heap.size)
  generalize hAe : va_A (wG (cM cy ad) ad 40 σ) s.heap.size = A at hD ⊢
  have hA : ∀ q : Nat, s.heap.size ≤ q → A q := fun q h => by rw [← hAe]; exact Or.inr h
  have hS : va_S A s.heap s.heap [] := va_S.rf
  have hl := lv_entry ([.ref (ad 0), .int a1, .int a2]) (n := 3) (Nat.le_of_ble_eq_true rfl)
  rw [lg_entry_eq]
  generalize (lg_sl ([.ref (ad 0), .int a1, .int a2]) ++ List.replicate (3 - (lg_sl ([.ref (ad 0), .int a1, .int a2])).length) Slot.unset).toArray = ls at hl ⊢
  have hl : lv_has ls 3 [(0, .ref (ad 0)), (1, .int a1), (2, .int a2)] := hl
  unfold fX12_keep at h
  clear hAe hD0
  suffices HH : ∀ (H : Heap) (locs : List Loc) (ls : Array Slot), fX12_keep_0 σ a1 a2 = some (r0, σ9) → va_P (dC, dI) vwCl (wG (cM cy ad) ad 40 σ) H → va_D A (wG (cM cy ad) ad 40 σ) → va_S A s.heap H locs → lv_has ls 3 [(0, .ref (ad 0)), (1, .int a1), (2, .int a2)] → W p l e (headSpec wsX12_keep ({ frames := 3, cells := 0, slots := 0, locals := 66 })).room s m (#[.ref (ad 0), .int a1, .int a2]) below meth c H locs 0 0 (MQ below (va_Qi (fun (r : Int32) (_ : Unit) => r = r0) (fun (_ : Unit) t => wAt (dC, dI) A (wG (cM cy ad) ad 40 σ9) t) A) (#[.ref (ad 0), .int a1, .int a2]) s 0 0 A) (F0 m 0 ls []) from HH s.heap [] ls h hP hD hS hl
  have w22 : ∀ (σ : S2) (x1 : Int32) (x2 : Int32) (H : Heap) (locs : List Loc) (ls : Array Slot), fX12_keep_22 σ x1 x2 = some (r0, σ9) → va_P (dC, dI) vwCl (wG (cM cy ad) ad 40 σ) H → va_D A (wG (cM cy ad) ad 40 σ) → va_S A s.heap H locs → lv_has ls 3 [(0, .ref (ad 0)), (1, .int x1), (2, .int x2)] → W p l e (headSpec wsX12_keep ({ frames := 3, cells := 0, slots := 0, locals := 66 })).room s m (#[.ref (ad 0), .int a1, .int a2]) below meth c H locs 0 0 (MQ below (va_Qi (fun (r : Int32) (_ : Unit) => r = r0) (fun (_ : Unit) t => wAt (dC, dI) A (wG (cM cy ad) ad 40 σ9) t) A) (#[.ref (ad 0), .int a1, .int a2]) s 0 0 A) (F0 m 22 ls []) := by
    intro σ x1 x2 H locs ls h hP hD hS hl
    unfold fX12_keep_22 at h
    refine lv_aload_n hx hb dX12_keep_22 rfl (lv_at hl 0 rfl) ?_
    refine ux_get (D := (dC, dI)) (ci := 12) (v := .ref (ad 30)) (C := RX12) (T := TX12) (M := 59) (fs := (oM ad (σ.1 0))) hx hb hts (fun _ h9 => List.mem_cons_of_mem _ (List.mem_append_right _ h9)) hown hK hP 0 (Nat.le_of_ble_eq_true rfl) rfl rfl 39 (by decide) (hts (.fieldLink RX12 102 "SeatsRoundModel" "shelfIs" "[I") (List.mem_of_getElem? (i := 1) rfl)) (fun _ h9 => h9) rfl dX12_keep_23 ?_
    refine lv_iload_n hx hb dX12_keep_26 rfl (lv_at hl 1 rfl) ?_
    refine lv_iload_n hx hb dX12_keep_27 rfl (lv_at hl 2 rfl) ?_
    refine ux_iast hx hb hK hP hD hS 30 0 (Nat.le_of_ble_eq_true rfl) (fun _ => (cM_30 _ _ _ _)) rfl h dX12_keep_28 (fun σ1 H locs h hP hD hS => ?_)
    refine lv_aload_n hx hb dX12_keep_29 rfl (lv_at hl 0 rfl) ?_
    refine ux_get (D := (dC, dI)) (ci := 12) (v := .ref (ad 31)) (C := RX12) (T := TX12) (M := 59) (fs := (oM ad (σ1.1 0))) hx hb hts (fun _ h9 => List.mem_cons_of_mem _ (List.mem_append_right _ h9)) hown hK hP 0 (Nat.le_of_ble_eq_true rfl) rfl rfl 40 (by decide) (hts (.fieldLink RX12 105 "SeatsRoundModel" "shelfSort" "[I") (List.mem_of_getElem? (i := 2) rfl)) (fun _ h9 => h9) rfl dX12_keep_30 ?_
    refine lv_iload_n hx hb dX12_keep_33 rfl (lv_at hl 1 rfl) ?_
    refine lv_iconst (v := (-1)) hx hb dX12_keep_34 (by decide) ?_
    refine ux_iast hx hb hK hP hD hS 31 0 (Nat.le_of_ble_eq_true rfl) (fun _ => (cM_31 _ _ _ _)) rfl h dX12_keep_35 (fun σ2 H locs h hP hD hS => ?_)
    refine lv_iconst (v := 1) hx hb dX12_keep_36 (by decide) ?_
    exact ux_iret hx hb hr h hP hD hS hlocks dX12_keep_37
  have w0 : ∀ (σ : S2) (x1 : Int32) (x2 : Int32) (H : Heap) (locs : List Loc) (ls : Array Slot), fX12_keep_0 σ x1 x2 = some (r0, σ9) → va_P (dC, dI) vwCl (wG (cM cy ad) ad 40 σ) H → va_D A (wG (cM cy ad) ad 40 σ) → va_S A s.heap H locs → lv_has ls 3 [(0, .ref (ad 0)), (1, .int x1), (2, .int x2)] → W p l e (headSpec wsX12_keep ({ frames := 3, cells := 0, slots := 0, locals := 66 })).room s m (#[.ref (ad 0), .int a1, .int a2]) below meth c H locs 0 0 (MQ below (va_Qi (fun (r : Int32) (_ : Unit) => r = r0) (fun (_ : Unit) t => wAt (dC, dI) A (wG (cM cy ad) ad 40 σ9) t) A) (#[.ref (ad 0), .int a1, .int a2]) s 0 0 A) (F0 m 0 ls []) := by
    intro σ x1 x2 H locs ls h hP hD hS hl
    unfold fX12_keep_0 at h
    refine lv_iload_n hx hb dX12_keep_0 rfl (lv_at hl 1 rfl) ?_
    obtain ⟨r3, hf4, h⟩ := biS h
    refine ux_calli (va_runS (As := [.int x1]) (rest := []) ⟨hx, hb, hml, hown, hts⟩ (tX12_isShelf l dC dI cy ad σ x1 H.size r3 hf4) (va_cwS 1 hts gX12_keep_X12_isShelf rfl rfl rfl (by decide +kernel) ⟨Nat.le_of_ble_eq_true rfl, Nat.le_of_ble_eq_true rfl⟩) (wp_S hK hN hP hD) rfl rfl hl.1 rfl (lv_room (Nat.le_of_ble_eq_true rfl)) dX12_keep_1 ⟨Nat.le_of_ble_eq_true rfl, Nat.le_of_ble_eq_true rfl⟩) hD hS hA (fun H locs hP hD hS => ?_)
    refine lv_if_eq (tgt := 20) hx hb dX12_keep_4 (by decide) (fun hcd => ?_) (fun hcd => ?_)
    · have h := cdP hcd h
      refine lv_iconst (v := (-1)) hx hb dX12_keep_20 (by decide) ?_
      exact ux_iret hx hb hr h hP hD hS hlocks dX12_keep_21
    · have h := cdN hcd h
      refine lv_iload_n hx hb dX12_keep_7 rfl (lv_at hl 2 rfl) ?_
      refine lv_iconst (v := (-1)) hx hb dX12_keep_8 (by decide) ?_
      refine lv_icmp_eq (tgt := 22) hx hb dX12_keep_9 (by decide) (fun hcd => ?_) (fun hcd => ?_)
      · have h := cdP hcd h
        exact w22 σ x1 x2 H locs ls h hP hD hS hl
      · have h := cdN hcd h
        refine lv_aload_n hx hb dX12_keep_12 rfl (lv_at hl 0 rfl) ?_
        refine lv_iload_n hx hb dX12_keep_13 rfl (lv_at hl 2 rfl) ?_
        obtain ⟨r5, hf6, h⟩ := biS h
        refine ux_calli (va_runV (As := [.int x2]) (rest := []) ⟨hx, hb, hml, hown, hts⟩ (tX12_isKeeper l dC dI cy ad σ x2 H.size r5 hf6) (cwV 1 hts gX12_keep_X12_isKeeper rfl rfl rfl (by decide +kernel) ⟨Nat.le_of_ble_eq_true rfl, Nat.le_of_ble_eq_true rfl⟩) (wp_V hK hN hP hD (va_recv hK hP (ci := 12) (q0 := 0) rfl (wG_of (Nat.le_of_ble_eq_true rfl) rfl))) rfl rfl hl.1 rfl (lv_room (Nat.le_of_ble_eq_true rfl)) dX12_keep_14 ⟨Nat.le_of_ble_eq_true rfl, Nat.le_of_ble_eq_true rfl⟩) hD hS hA (fun H locs hP hD hS => ?_)
        refine lv_if_ne (tgt := 22) hx hb dX12_keep_17 (by decide) (fun hcd => ?_) (fun hcd => ?_)
        · have h := cdN hcd h
          exact w22 σ x1 x2 H locs ls h hP hD hS hl
        · have h := cdP hcd h
          refine lv_iconst (v := (-1)) hx hb dX12_keep_20 (by decide) ?_
          exact ux_iret hx hb hr h hP hD hS hlocks dX12_keep_21
  intro H locs ls h hP hD hS hl
  exact w0 σ a1 a2 H locs ls h hP hD hS (lv_sub hl [0, 1, 2] rfl)

set_option maxHeartbeats 4000000 in
set_option maxRecDepth 100000 in
theorem tX12_row (l : Launch) (dC : Nat → ClassId) (dI : Nat → Nat → Nat) (cy : Nat → ClassId) (ad : Nat → Nat) (σ : S2) (a1 : Int32) (a2 : Int32) (a3 : Int32) (sz : Nat) (r0 : Int32) (σ9 : S2) (h : fX12_row σ a1 a2 a3 = some (r0, σ9)) : Met l yX12_row wsX12_row ({ frames := 3, cells := 0, slots := 0, locals := 65 }) (va_Pc [.ref (ad 0), .int a1, .int a2, .int a3] (wPre (dC, dI) cy (wG (cM cy ad) ad 40 σ) sz)) (va_Qi (fun (r : Int32) (_ : Unit) => r = r0) (fun (_ : Unit) t => wAt (dC, dI) (va_A (wG (cM cy ad) ad 40 σ) sz) (wG (cM cy ad) ad 40 σ9) t) (va_A (wG (cM cy ad) ad 40 σ) sz)) 0 0 (va_A (wG (cM cy ad) ad 40 σ) sz) := by
  refine Met.ofW (cc := cX12_row) (maxL := 5) (ret := (some .int)) (by decide) rfl ?_
  intro p e s m args below meth c s₁ B hml hv
  obtain ⟨rfl, hsz, hP, hK, hD0, hN⟩ := hv
  have hx := B.exec
  have hb := B.bytes
  have hr := B.returns
  have hts := atoms_spec (ws := wsX12_row) B.pre
  have hown : s.vm.findClass RX12 = some m.cls := findClass_of_methodNamed B.named
  have hlocks := B.notSynchronized
  subst hsz
  have hD := hD0.self (sz := s.heap.size)
  generalize hAe : va_A (wG (cM cy ad) ad 40 σ) s.heap.size = A at hD ⊢
  have hA : ∀ q : Nat, s.heap.size ≤ q → A q := fun q h => by rw [← hAe]; exact Or.inr h
  have hS : va_S A s.heap s.heap [] := va_S.rf
  have hl := lv_entry ([.ref (ad 0), .int a1, .int a2, .int a3]) (n := 5) (Nat.le_of_ble_eq_true rfl)
  rw [lg_entry_eq]
  generalize (lg_sl ([.ref (ad 0), .int a1, .int a2, .int a3]) ++ List.replicate (5 - (lg_sl ([.ref (ad 0), .int a1, .int a2, .int a3])).length) Slot.unset).toArray = ls at hl ⊢
  have hl : lv_has ls 5 [(0, .ref (ad 0)), (1, .int a1), (2, .int a2), (3, .int a3)] := hl
  unfold fX12_row at h
  clear hAe hD0
  suffices HH : ∀ (H : Heap) (locs : List Loc) (ls : Array Slot), fX12_row_0 σ a1 a2 a3 = some (r0, σ9) → va_P (dC, dI) vwCl (wG (cM cy ad) ad 40 σ) H → va_D A (wG (cM cy ad) ad 40 σ) → va_S A s.heap H locs → lv_has ls 5 [(0, .ref (ad 0)), (1, .int a1), (2, .int a2), (3, .int a3)] → W p l e (headSpec wsX12_row ({ frames := 3, cells := 0, slots := 0, locals := 65 })).room s m (#[.ref (ad 0), .int a1, .int a2, .int a3]) below meth c H locs 0 0 (MQ below (va_Qi (fun (r : Int32) (_ : Unit) => r = r0) (fun (_ : Unit) t => wAt (dC, dI) A (wG (cM cy ad) ad 40 σ9) t) A) (#[.ref (ad 0), .int a1, .int a2, .int a3]) s 0 0 A) (F0 m 0 ls []) from HH s.heap [] ls h hP hD hS hl
  have w55 : ∀ (n : Nat), ∀ (σ : S2) (x1 : Int32) (x4 : Int32) (H : Heap) (locs : List Loc) (ls : Array Slot), fX12_row_55 n σ x1 x4 = some (r0, σ9) → va_P (dC, dI) vwCl (wG (cM cy ad) ad 40 σ) H → va_D A (wG (cM cy ad) ad 40 σ) → va_S A s.heap H locs → lv_has ls 5 [(0, .ref (ad 0)), (1, .int x1), (4, .int x4)] → W p l e (headSpec wsX12_row ({ frames := 3, cells := 0, slots := 0, locals := 65 })).room s m (#[.ref (ad 0), .int a1, .int a2, .int a3]) below meth c H locs 0 0 (MQ below (va_Qi (fun (r : Int32) (_ : Unit) => r = r0) (fun (_ : Unit) t => wAt (dC, dI) A (wG (cM cy ad) ad 40 σ9) t) A) (#[.ref (ad 0), .int a1, .int a2, .int a3]) s 0 0 A) (F0 m 55 ls []) := by
    intro n
    induction n with
    | zero => intro σ x1 x4 H locs ls h; cases h
    | succ n ih =>
    intro σ x1 x4 H locs ls h hP hD hS hl
    unfold fX12_row_55 at h
    refine lv_iload hx hb dX12_row_55 (lv_at hl 2 rfl) ?_
    refine lv_bipush (v := 60) hx hb dX12_row_57 (by decide) ?_
    refine lv_icmp_ge (tgt := 81) hx hb dX12_row_59 (by decide) (fun hcd => ?_) (fun hcd => ?_)
    · have h := cdP hcd h
      refine lv_iconst (v := 1) hx hb dX12_row_81 (by decide) ?_
      exact ux_iret hx hb hr h hP hD hS hlocks dX12_row_82
    · have h := cdN hcd h
      refine lv_aload_n hx hb dX12_row_62 rfl (lv_at hl 0 rfl) ?_
      refine ux_get (D := (dC, dI)) (ci := 12) (v := .ref (ad 33)) (C := RX12) (T := TX12) (M := 59) (fs := (oM ad (σ.1 0))) hx hb hts (fun _ h9 => List.mem_cons_of_mem _ (List.mem_append_right _ h9)) hown hK hP 0 (Nat.le_of_ble_eq_true rfl) rfl rfl 42 (by decide) (hts (.fieldLink RX12 111 "SeatsRoundModel" "elements" "[J") (List.mem_of_getElem? (i := 4) rfl)) (fun _ h9 => h9) rfl dX12_row_63 ?_
      refine lv_bipush (v := 60) hx hb dX12_row_66 (by decide) ?_
      refine lv_iload_n hx hb dX12_row_68 rfl (lv_at hl 1 rfl) ?_
      refine lv_imul hx hb dX12_row_69 ?_
      refine lv_iload hx hb dX12_row_70 (lv_at hl 2 rfl) ?_
      refine lv_iadd hx hb dX12_row_72 ?_
      refine lv_lconst (v := 0) hx hb dX12_row_73 (by decide) ?_
      change W _ _ _ _ _ _ _ _ _ _ _ _ _ _ _ (F0 m 74 ls [.long 0, .int ((60 * x1) + x4), .ref (ad 33)])
      refine ux_last hx hb hK hP hD hS 33 4 (Nat.le_of_ble_eq_true rfl) (fun _ => (cM_33 _ _ _ _)) rfl h dX12_row_74 (fun σ1 H locs h hP hD hS => ?_)
      obtain ⟨v2, ev2⟩ : ∃ y : Int32, y = x4 + 1 := ⟨_, rfl⟩
      have h := nmS h ev2
      refine lv_iinc (v := v2) (lv' := [(4, .int v2), (0, .ref (ad 0)), (1, .int x1)]) hx hb dX12_row_75 hl (k := 2) rfl (by rw [ev2]; rfl) (by decide) rfl (fun ls hl => ?_)
      have hl := lv_sub hl [1, 2, 0] (l' := [(0, .ref (ad 0)), (1, .int x1), (4, .int v2)]) rfl
      refine lv_goto (tgt := 55) hx hb dX12_row_78 (by decide) ?_
      exact ih σ1 x1 v2 H locs ls h hP hD hS hl
  have w0 : ∀ (σ : S2) (x1 : Int32) (x2 : Int32) (x3 : Int32) (H : Heap) (locs : List Loc) (ls : Array Slot), fX12_row_0 σ x1 x2 x3 = some (r0, σ9) → va_P (dC, dI) vwCl (wG (cM cy ad) ad 40 σ) H → va_D A (wG (cM cy ad) ad 40 σ) → va_S A s.heap H locs → lv_has ls 5 [(0, .ref (ad 0)), (1, .int x1), (2, .int x2), (3, .int x3)] → W p l e (headSpec wsX12_row ({ frames := 3, cells := 0, slots := 0, locals := 65 })).room s m (#[.ref (ad 0), .int a1, .int a2, .int a3]) below meth c H locs 0 0 (MQ below (va_Qi (fun (r : Int32) (_ : Unit) => r = r0) (fun (_ : Unit) t => wAt (dC, dI) A (wG (cM cy ad) ad 40 σ9) t) A) (#[.ref (ad 0), .int a1, .int a2, .int a3]) s 0 0 A) (F0 m 0 ls []) := by
    intro σ x1 x2 x3 H locs ls h hP hD hS hl
    unfold fX12_row_0 at h
    refine lv_iload_n hx hb dX12_row_0 rfl (lv_at hl 1 rfl) ?_
    obtain ⟨r3, hf4, h⟩ := biS h
    refine ux_calli (va_runS (As := [.int x1]) (rest := []) ⟨hx, hb, hml, hown, hts⟩ (tX12_isShelf l dC dI cy ad σ x1 H.size r3 hf4) (va_cwS 1 hts gX12_row_X12_isShelf rfl rfl rfl (by decide +kernel) ⟨Nat.le_of_ble_eq_true rfl, Nat.le_of_ble_eq_true rfl⟩) (wp_S hK hN hP hD) rfl rfl hl.1 rfl (lv_room (Nat.le_of_ble_eq_true rfl)) dX12_row_1 ⟨Nat.le_of_ble_eq_true rfl, Nat.le_of_ble_eq_true rfl⟩) hD hS hA (fun H locs hP hD hS => ?_)
    refine lv_if_eq (tgt := 22) hx hb dX12_row_4 (by decide) (fun hcd => ?_) (fun hcd => ?_)
    · have h := cdP hcd h
      refine lv_iconst (v := (-1)) hx hb dX12_row_22 (by decide) ?_
      exact ux_iret hx hb hr h hP hD hS hlocks dX12_row_23
    · have h := cdN hcd h
      refine lv_iload_n hx hb dX12_row_7 rfl (lv_at hl 2 rfl) ?_
      refine lv_iconst (v := 0) hx hb dX12_row_8 (by decide) ?_
      refine lv_iconst (v := 4) hx hb dX12_row_9 (by decide) ?_
      obtain ⟨r5, hf6, h⟩ := biS h
      refine ux_calli (va_runS (As := [.int x2, .int 0, .int 4]) (rest := []) ⟨hx, hb, hml, hown, hts⟩ (tX12_in l dC dI cy ad σ x2 0 4 H.size r5 hf6) (va_cwS 3 hts gX12_row_X12_in rfl rfl rfl (by decide +kernel) ⟨Nat.le_of_ble_eq_true rfl, Nat.le_of_ble_eq_true rfl⟩) (wp_S hK hN hP hD) rfl rfl hl.1 rfl (lv_room (Nat.le_of_ble_eq_true rfl)) dX12_row_10 ⟨Nat.le_of_ble_eq_true rfl, Nat.le_of_ble_eq_true rfl⟩) hD hS hA (fun H locs hP hD hS => ?_)
      refine lv_if_eq (tgt := 22) hx hb dX12_row_13 (by decide) (fun hcd => ?_) (fun hcd => ?_)
      · have h := cdP hcd h
        refine lv_iconst (v := (-1)) hx hb dX12_row_22 (by decide) ?_
        exact ux_iret hx hb hr h hP hD hS hlocks dX12_row_23
      · have h := cdN hcd h
        refine lv_iload_n hx hb dX12_row_16 rfl (lv_at hl 3 rfl) ?_
        refine lv_bipush (v := 60) hx hb dX12_row_17 (by decide) ?_
        refine lv_icmp_le (tgt := 24) hx hb dX12_row_19 (by decide) (fun hcd => ?_) (fun hcd => ?_)
        · have h := cdP hcd h
          refine lv_iload_n hx hb dX12_row_24 rfl (lv_at hl 3 rfl) ?_
          refine lv_if_ge (tgt := 31) hx hb dX12_row_25 (by decide) (fun hcd => ?_) (fun hcd => ?_)
          · have h := cdP hcd h
            refine lv_aload_n hx hb dX12_row_31 rfl (lv_at hl 0 rfl) ?_
            refine ux_get (D := (dC, dI)) (ci := 12) (v := .ref (ad 30)) (C := RX12) (T := TX12) (M := 59) (fs := (oM ad (σ.1 0))) hx hb hts (fun _ h9 => List.mem_cons_of_mem _ (List.mem_append_right _ h9)) hown hK hP 0 (Nat.le_of_ble_eq_true rfl) rfl rfl 39 (by decide) (hts (.fieldLink RX12 102 "SeatsRoundModel" "shelfIs" "[I") (List.mem_of_getElem? (i := 1) rfl)) (fun _ h9 => h9) rfl dX12_row_32 ?_
            refine lv_iload_n hx hb dX12_row_35 rfl (lv_at hl 1 rfl) ?_
            refine lv_iconst (v := (-1)) hx hb dX12_row_36 (by decide) ?_
            refine ux_iast hx hb hK hP hD hS 30 0 (Nat.le_of_ble_eq_true rfl) (fun _ => (cM_30 _ _ _ _)) rfl h dX12_row_37 (fun σ7 H locs h hP hD hS => ?_)
            refine lv_aload_n hx hb dX12_row_38 rfl (lv_at hl 0 rfl) ?_
            refine ux_get (D := (dC, dI)) (ci := 12) (v := .ref (ad 31)) (C := RX12) (T := TX12) (M := 59) (fs := (oM ad (σ7.1 0))) hx hb hts (fun _ h9 => List.mem_cons_of_mem _ (List.mem_append_right _ h9)) hown hK hP 0 (Nat.le_of_ble_eq_true rfl) rfl rfl 40 (by decide) (hts (.fieldLink RX12 105 "SeatsRoundModel" "shelfSort" "[I") (List.mem_of_getElem? (i := 2) rfl)) (fun _ h9 => h9) rfl dX12_row_39 ?_
            refine lv_iload_n hx hb dX12_row_42 rfl (lv_at hl 1 rfl) ?_
            refine lv_iload_n hx hb dX12_row_43 rfl (lv_at hl 2 rfl) ?_
            refine ux_iast hx hb hK hP hD hS 31 0 (Nat.le_of_ble_eq_true rfl) (fun _ => (cM_31 _ _ _ _)) rfl h dX12_row_44 (fun σ8 H locs h hP hD hS => ?_)
            refine lv_aload_n hx hb dX12_row_45 rfl (lv_at hl 0 rfl) ?_
            refine ux_get (D := (dC, dI)) (ci := 12) (v := .ref (ad 32)) (C := RX12) (T := TX12) (M := 59) (fs := (oM ad (σ8.1 0))) hx hb hts (fun _ h9 => List.mem_cons_of_mem _ (List.mem_append_right _ h9)) hown hK hP 0 (Nat.le_of_ble_eq_true rfl) rfl rfl 41 (by decide) (hts (.fieldLink RX12 108 "SeatsRoundModel" "shelfSize" "[I") (List.mem_of_getElem? (i := 3) rfl)) (fun _ h9 => h9) rfl dX12_row_46 ?_
            refine lv_iload_n hx hb dX12_row_49 rfl (lv_at hl 1 rfl) ?_
            refine lv_iload_n hx hb dX12_row_50 rfl (lv_at hl 3 rfl) ?_
            refine ux_iast hx hb hK hP hD hS 32 0 (Nat.le_of_ble_eq_true rfl) (fun _ => (cM_32 _ _ _ _)) rfl h dX12_row_51 (fun σ9 H locs h hP hD hS => ?_)
            refine lv_iconst (v := 0) hx hb dX12_row_52 (by decide) ?_
            refine lv_istore (lv' := [(4, .int 0), (0, .ref (ad 0)), (1, .int x1), (2, .int x2), (3, .int x3)]) hx hb dX12_row_53 hl (by decide) rfl (fun ls hl => ?_)
            have hl := lv_sub hl [1, 2, 3, 4, 0] (l' := [(0, .ref (ad 0)), (1, .int x1), (2, .int x2), (3, .int x3), (4, .int 0)]) rfl
            exact w55 FU σ9 x1 0 H locs ls h hP hD hS (lv_sub hl [0, 1, 4] rfl)
          · have h := cdN hcd h
            refine lv_bipush (v := (-14)) hx hb dX12_row_28 (by decide) ?_
            exact ux_iret hx hb hr h hP hD hS hlocks dX12_row_30
        · have h := cdN hcd h
          refine lv_iconst (v := (-1)) hx hb dX12_row_22 (by decide) ?_
          exact ux_iret hx hb hr h hP hD hS hlocks dX12_row_23
  intro H locs ls h hP hD hS hl
  exact w0 σ a1 a2 a3 H locs ls h hP hD hS (lv_sub hl [0, 1, 2, 3] rfl)

set_option maxHeartbeats 4000000 in
set_option maxRecDepth 100000 in
theorem tX12_barred (l : Launch) (dC : Nat → ClassId) (dI : Nat → Nat → Nat) (cy : Nat → ClassId) (ad : Nat → Nat) (σ : S2) (a1 : Int32) (a2 : Int32) (sz : Nat) (r0 : Int32) (h : fX12_barred σ a1 a2 = some r0) : Met l yX12_barred wsX12_barred ({ frames := 3, cells := 0, slots := 0, locals := 65 }) (va_Pc [.ref (ad 0), .int a1, .int a2] (wPre (dC, dI) cy (wG (cM cy ad) ad 40 σ) sz)) (va_Qi (fun (r : Int32) (_ : Unit) => r = r0) (fun (_ : Unit) t => wAt (dC, dI) (va_A (wG (cM cy ad) ad 40 σ) sz) (wG (cM cy ad) ad 40 σ) t) (va_A (wG (cM cy ad) ad 40 σ) sz)) 0 0 (va_A (wG (cM cy ad) ad 40 σ) sz) := by
  refine Met.ofW (cc := cX12_barred) (maxL := 3) (ret := (some .int)) (by decide) rfl ?_
  intro p e s m args below meth c s₁ B hml hv
  obtain ⟨rfl, hsz, hP, hK, hD0, hN⟩ := hv
  have hx := B.exec
  have hb := B.bytes
  have hr := B.returns
  have hts := atoms_spec (ws := wsX12_barred) B.pre
  have hown : s.vm.findClass RX12 = some m.cls := findClass_of_methodNamed B.named
  have hlocks := B.notSynchronized
  subst hsz
  have hD := hD0.self (sz := s.heap.size)
  generalize hAe : va_A (wG (cM cy ad) ad 40 σ) s.heap.size = A at hD ⊢
  have hA : ∀ q : Nat, s.heap.size ≤ q → A q := fun q h => by rw [← hAe]; exact Or.inr h
  have hS : va_S A s.heap s.heap [] := va_S.rf
  have hl := lv_entry ([.ref (ad 0), .int a1, .int a2]) (n := 3) (Nat.le_of_ble_eq_true rfl)
  rw [lg_entry_eq]
  generalize (lg_sl ([.ref (ad 0), .int a1, .int a2]) ++ List.replicate (3 - (lg_sl ([.ref (ad 0), .int a1, .int a2])).length) Slot.unset).toArray = ls at hl ⊢
  have hl : lv_has ls 3 [(0, .ref (ad 0)), (1, .int a1), (2, .int a2)] := hl
  unfold fX12_barred at h
  clear hAe hD0
  suffices HH : ∀ (H : Heap) (locs : List Loc) (ls : Array Slot), fX12_barred_0 σ a1 a2 = some r0 → va_P (dC, dI) vwCl (wG (cM cy ad) ad 40 σ) H → va_D A (wG (cM cy ad) ad 40 σ) → va_S A s.heap H locs → lv_has ls 3 [(0, .ref (ad 0)), (1, .int a1), (2, .int a2)] → W p l e (headSpec wsX12_barred ({ frames := 3, cells := 0, slots := 0, locals := 65 })).room s m (#[.ref (ad 0), .int a1, .int a2]) below meth c H locs 0 0 (MQ below (va_Qi (fun (r : Int32) (_ : Unit) => r = r0) (fun (_ : Unit) t => wAt (dC, dI) A (wG (cM cy ad) ad 40 σ) t) A) (#[.ref (ad 0), .int a1, .int a2]) s 0 0 A) (F0 m 0 ls []) from HH s.heap [] ls h hP hD hS hl
  have w0 : ∀ (σ : S2) (x1 : Int32) (x2 : Int32) (H : Heap) (locs : List Loc) (ls : Array Slot), fX12_barred_0 σ x1 x2 = some r0 → va_P (dC, dI) vwCl (wG (cM cy ad) ad 40 σ) H → va_D A (wG (cM cy ad) ad 40 σ) → va_S A s.heap H locs → lv_has ls 3 [(0, .ref (ad 0)), (1, .int x1), (2, .int x2)] → W p l e (headSpec wsX12_barred ({ frames := 3, cells := 0, slots := 0, locals := 65 })).room s m (#[.ref (ad 0), .int a1, .int a2]) below meth c H locs 0 0 (MQ below (va_Qi (fun (r : Int32) (_ : Unit) => r = r0) (fun (_ : Unit) t => wAt (dC, dI) A (wG (cM cy ad) ad 40 σ) t) A) (#[.ref (ad 0), .int a1, .int a2]) s 0 0 A) (F0 m 0 ls []) := by
    intro σ x1 x2 H locs ls h hP hD hS hl
    unfold fX12_barred_0 at h
    refine lv_iload_n hx hb dX12_barred_0 rfl (lv_at hl 1 rfl) ?_
    obtain ⟨r1, hf2, h⟩ := biS h
    refine ux_calli (va_runS (As := [.int x1]) (rest := []) ⟨hx, hb, hml, hown, hts⟩ (tX12_isShelf l dC dI cy ad σ x1 H.size r1 hf2) (va_cwS 1 hts gX12_barred_X12_isShelf rfl rfl rfl (by decide +kernel) ⟨Nat.le_of_ble_eq_true rfl, Nat.le_of_ble_eq_true rfl⟩) (wp_S hK hN hP hD) rfl rfl hl.1 rfl (lv_room (Nat.le_of_ble_eq_true rfl)) dX12_barred_1 ⟨Nat.le_of_ble_eq_true rfl, Nat.le_of_ble_eq_true rfl⟩) hD hS hA (fun H locs hP hD hS => ?_)
    refine lv_if_ne (tgt := 9) hx hb dX12_barred_4 (by decide) (fun hcd => ?_) (fun hcd => ?_)
    · have h := cdN hcd h
      refine lv_aload_n hx hb dX12_barred_9 rfl (lv_at hl 0 rfl) ?_
      refine ux_get (D := (dC, dI)) (ci := 12) (v := .ref (ad 31)) (C := RX12) (T := TX12) (M := 59) (fs := (oM ad (σ.1 0))) hx hb hts (fun _ h9 => List.mem_cons_of_mem _ (List.mem_append_right _ h9)) hown hK hP 0 (Nat.le_of_ble_eq_true rfl) rfl rfl 40 (by decide) (hts (.fieldLink RX12 105 "SeatsRoundModel" "shelfSort" "[I") (List.mem_of_getElem? (i := 1) rfl)) (fun _ h9 => h9) rfl dX12_barred_10 ?_
      refine lv_iload_n hx hb dX12_barred_13 rfl (lv_at hl 1 rfl) ?_
      refine ux_iald hx hb hK hP 31 0 (Nat.le_of_ble_eq_true rfl) (cM_31 _ _ _ _) rfl h dX12_barred_14 (fun v3 h => ?_)
      refine lv_if_ge (tgt := 35) hx hb dX12_barred_15 (by decide) (fun hcd => ?_) (fun hcd => ?_)
      · have h := cdP hcd h
        refine lv_iload_n hx hb dX12_barred_35 rfl (lv_at hl 2 rfl) ?_
        refine lv_iconst (v := 0) hx hb dX12_barred_36 (by decide) ?_
        refine lv_aload_n hx hb dX12_barred_37 rfl (lv_at hl 0 rfl) ?_
        refine ux_get (D := (dC, dI)) (ci := 12) (v := .ref (ad 32)) (C := RX12) (T := TX12) (M := 59) (fs := (oM ad (σ.1 0))) hx hb hts (fun _ h9 => List.mem_cons_of_mem _ (List.mem_append_right _ h9)) hown hK hP 0 (Nat.le_of_ble_eq_true rfl) rfl rfl 41 (by decide) (hts (.fieldLink RX12 108 "SeatsRoundModel" "shelfSize" "[I") (List.mem_of_getElem? (i := 3) rfl)) (fun _ h9 => h9) rfl dX12_barred_38 ?_
        refine lv_iload_n hx hb dX12_barred_41 rfl (lv_at hl 1 rfl) ?_
        refine ux_iald hx hb hK hP 32 0 (Nat.le_of_ble_eq_true rfl) (cM_32 _ _ _ _) rfl h dX12_barred_42 (fun v4 h => ?_)
        refine lv_iconst (v := 1) hx hb dX12_barred_43 (by decide) ?_
        refine lv_isub hx hb dX12_barred_44 ?_
        obtain ⟨r5, hf6, h⟩ := biS h
        refine ux_calli (va_runS (As := [.int x2, .int 0, .int (v4 - 1)]) (rest := []) ⟨hx, hb, hml, hown, hts⟩ (tX12_in l dC dI cy ad σ x2 0 (v4 - 1) H.size r5 hf6) (va_cwS 3 hts gX12_barred_X12_in rfl rfl rfl (by decide +kernel) ⟨Nat.le_of_ble_eq_true rfl, Nat.le_of_ble_eq_true rfl⟩) (wp_S hK hN hP hD) rfl rfl hl.1 rfl (lv_room (Nat.le_of_ble_eq_true rfl)) dX12_barred_45 ⟨Nat.le_of_ble_eq_true rfl, Nat.le_of_ble_eq_true rfl⟩) hD hS hA (fun H locs hP hD hS => ?_)
        refine lv_if_eq (tgt := 55) hx hb dX12_barred_48 (by decide) (fun hcd => ?_) (fun hcd => ?_)
        · have h := cdP hcd h
          refine lv_bipush (v := (-13)) hx hb dX12_barred_55 (by decide) ?_
          exact ux_iretP hx hb hr h hP hD hS hlocks dX12_barred_57
        · have h := cdN hcd h
          refine lv_iconst (v := 0) hx hb dX12_barred_51 (by decide) ?_
          refine lv_goto (tgt := 57) hx hb dX12_barred_52 (by decide) ?_
          exact ux_iretP hx hb hr h hP hD hS hlocks dX12_barred_57
      · have h := cdN hcd h
        refine lv_aload_n hx hb dX12_barred_18 rfl (lv_at hl 0 rfl) ?_
        refine ux_get (D := (dC, dI)) (ci := 12) (v := .ref (ad 30)) (C := RX12) (T := TX12) (M := 59) (fs := (oM ad (σ.1 0))) hx hb hts (fun _ h9 => List.mem_cons_of_mem _ (List.mem_append_right _ h9)) hown hK hP 0 (Nat.le_of_ble_eq_true rfl) rfl rfl 39 (by decide) (hts (.fieldLink RX12 102 "SeatsRoundModel" "shelfIs" "[I") (List.mem_of_getElem? (i := 2) rfl)) (fun _ h9 => h9) rfl dX12_barred_19 ?_
        refine lv_iload_n hx hb dX12_barred_22 rfl (lv_at hl 1 rfl) ?_
        refine ux_iald hx hb hK hP 30 0 (Nat.le_of_ble_eq_true rfl) (cM_30 _ _ _ _) rfl h dX12_barred_23 (fun v7 h => ?_)
        refine lv_if_ge (tgt := 32) hx hb dX12_barred_24 (by decide) (fun hcd => ?_) (fun hcd => ?_)
        · have h := cdP hcd h
          refine lv_bipush (v := (-12)) hx hb dX12_barred_32 (by decide) ?_
          exact ux_iretP hx hb hr h hP hD hS hlocks dX12_barred_34
        · have h := cdN hcd h
          refine lv_bipush (v := (-11)) hx hb dX12_barred_27 (by decide) ?_
          refine lv_goto (tgt := 34) hx hb dX12_barred_29 (by decide) ?_
          exact ux_iretP hx hb hr h hP hD hS hlocks dX12_barred_34
    · have h := cdP hcd h
      refine lv_iconst (v := (-1)) hx hb dX12_barred_7 (by decide) ?_
      exact ux_iretP hx hb hr h hP hD hS hlocks dX12_barred_8
  intro H locs ls h hP hD hS hl
  exact w0 σ a1 a2 H locs ls h hP hD hS (lv_sub hl [0, 1, 2] rfl)

set_option maxHeartbeats 4000000 in
set_option maxRecDepth 100000 in
theorem tX12_put (l : Launch) (dC : Nat → ClassId) (dI : Nat → Nat → Nat) (cy : Nat → ClassId) (ad : Nat → Nat) (σ : S2) (a1 : Int32) (a2 : Int32) (a3 : Int64) (sz : Nat) (r0 : Int32) (σ9 : S2) (h : fX12_put σ a1 a2 a3 = some (r0, σ9)) : Met l yX12_put wsX12_put ({ frames := 4, cells := 0, slots := 0, locals := 87 }) (va_Pc [.ref (ad 0), .int a1, .int a2, .long a3] (wPre (dC, dI) cy (wG (cM cy ad) ad 40 σ) sz)) (va_Qi (fun (r : Int32) (_ : Unit) => r = r0) (fun (_ : Unit) t => wAt (dC, dI) (va_A (wG (cM cy ad) ad 40 σ) sz) (wG (cM cy ad) ad 40 σ9) t) (va_A (wG (cM cy ad) ad 40 σ) sz)) 0 0 (va_A (wG (cM cy ad) ad 40 σ) sz) := by
  refine Met.ofW (cc := cX12_put) (maxL := 7) (ret := (some .int)) (by decide) rfl ?_
  intro p e s m args below meth c s₁ B hml hv
  obtain ⟨rfl, hsz, hP, hK, hD0, hN⟩ := hv
  have hx := B.exec
  have hb := B.bytes
  have hr := B.returns
  have hts := atoms_spec (ws := wsX12_put) B.pre
  have hown : s.vm.findClass RX12 = some m.cls := findClass_of_methodNamed B.named
  have hlocks := B.notSynchronized
  subst hsz
  have hD := hD0.self (sz := s.heap.size)
  generalize hAe : va_A (wG (cM cy ad) ad 40 σ) s.heap.size = A at hD ⊢
  have hA : ∀ q : Nat, s.heap.size ≤ q → A q := fun q h => by rw [← hAe]; exact Or.inr h
  have hS : va_S A s.heap s.heap [] := va_S.rf
  have hl := lv_entry ([.ref (ad 0), .int a1, .int a2, .long a3]) (n := 7) (Nat.le_of_ble_eq_true rfl)
  rw [lg_entry_eq]
  generalize (lg_sl ([.ref (ad 0), .int a1, .int a2, .long a3]) ++ List.replicate (7 - (lg_sl ([.ref (ad 0), .int a1, .int a2, .long a3])).length) Slot.unset).toArray = ls at hl ⊢
  have hl : lv_has ls 7 [(0, .ref (ad 0)), (1, .int a1), (2, .int a2), (3, .long a3)] := hl
  unfold fX12_put at h
  clear hAe hD0
  suffices HH : ∀ (H : Heap) (locs : List Loc) (ls : Array Slot), fX12_put_0 σ a1 a2 a3 = some (r0, σ9) → va_P (dC, dI) vwCl (wG (cM cy ad) ad 40 σ) H → va_D A (wG (cM cy ad) ad 40 σ) → va_S A s.heap H locs → lv_has ls 7 [(0, .ref (ad 0)), (1, .int a1), (2, .int a2), (3, .long a3)] → W p l e (headSpec wsX12_put ({ frames := 4, cells := 0, slots := 0, locals := 87 })).room s m (#[.ref (ad 0), .int a1, .int a2, .long a3]) below meth c H locs 0 0 (MQ below (va_Qi (fun (r : Int32) (_ : Unit) => r = r0) (fun (_ : Unit) t => wAt (dC, dI) A (wG (cM cy ad) ad 40 σ9) t) A) (#[.ref (ad 0), .int a1, .int a2, .long a3]) s 0 0 A) (F0 m 0 ls []) from HH s.heap [] ls h hP hD hS hl
  have w92 : ∀ (σ : S2) (s0 : Int64) (s1 : Int32) (H : Heap) (locs : List Loc) (ls : Array Slot), fX12_put_92 σ s0 s1 = some (r0, σ9) → va_P (dC, dI) vwCl (wG (cM cy ad) ad 40 σ) H → va_D A (wG (cM cy ad) ad 40 σ) → va_S A s.heap H locs → lv_has ls 7 [] → W p l e (headSpec wsX12_put ({ frames := 4, cells := 0, slots := 0, locals := 87 })).room s m (#[.ref (ad 0), .int a1, .int a2, .long a3]) below meth c H locs 0 0 (MQ below (va_Qi (fun (r : Int32) (_ : Unit) => r = r0) (fun (_ : Unit) t => wAt (dC, dI) A (wG (cM cy ad) ad 40 σ9) t) A) (#[.ref (ad 0), .int a1, .int a2, .long a3]) s 0 0 A) (F0 m 92 ls [.long s0, .int s1, .ref (ad 33)]) := by
    intro σ s0 s1 H locs ls h hP hD hS hl
    unfold fX12_put_92 at h
    refine ux_last hx hb hK hP hD hS 33 4 (Nat.le_of_ble_eq_true rfl) (fun _ => (cM_33 _ _ _ _)) rfl h dX12_put_92 (fun σ1 H locs h hP hD hS => ?_)
    refine lv_iconst (v := 1) hx hb dX12_put_93 (by decide) ?_
    exact ux_iret hx hb hr h hP hD hS hlocks dX12_put_94
  have w0 : ∀ (σ : S2) (x1 : Int32) (x2 : Int32) (x3 : Int64) (H : Heap) (locs : List Loc) (ls : Array Slot), fX12_put_0 σ x1 x2 x3 = some (r0, σ9) → va_P (dC, dI) vwCl (wG (cM cy ad) ad 40 σ) H → va_D A (wG (cM cy ad) ad 40 σ) → va_S A s.heap H locs → lv_has ls 7 [(0, .ref (ad 0)), (1, .int x1), (2, .int x2), (3, .long x3)] → W p l e (headSpec wsX12_put ({ frames := 4, cells := 0, slots := 0, locals := 87 })).room s m (#[.ref (ad 0), .int a1, .int a2, .long a3]) below meth c H locs 0 0 (MQ below (va_Qi (fun (r : Int32) (_ : Unit) => r = r0) (fun (_ : Unit) t => wAt (dC, dI) A (wG (cM cy ad) ad 40 σ9) t) A) (#[.ref (ad 0), .int a1, .int a2, .long a3]) s 0 0 A) (F0 m 0 ls []) := by
    intro σ x1 x2 x3 H locs ls h hP hD hS hl
    unfold fX12_put_0 at h
    refine lv_aload_n hx hb dX12_put_0 rfl (lv_at hl 0 rfl) ?_
    refine lv_iload_n hx hb dX12_put_1 rfl (lv_at hl 1 rfl) ?_
    refine lv_iload_n hx hb dX12_put_2 rfl (lv_at hl 2 rfl) ?_
    obtain ⟨r2, hf3, h⟩ := biS h
    refine ux_calli (va_runV (As := [.int x1, .int x2]) (rest := []) ⟨hx, hb, hml, hown, hts⟩ (tX12_barred l dC dI cy ad σ x1 x2 H.size r2 hf3) (cwV 2 hts gX12_put_X12_barred rfl rfl rfl (by decide +kernel) ⟨Nat.le_of_ble_eq_true rfl, Nat.le_of_ble_eq_true rfl⟩) (wp_V hK hN hP hD (va_recv hK hP (ci := 12) (q0 := 0) rfl (wG_of (Nat.le_of_ble_eq_true rfl) rfl))) rfl rfl hl.1 rfl (lv_room (Nat.le_of_ble_eq_true rfl)) dX12_put_3 ⟨Nat.le_of_ble_eq_true rfl, Nat.le_of_ble_eq_true rfl⟩) hD hS hA (fun H locs hP hD hS => ?_)
    refine lv_istore (lv' := [(5, .int r2), (0, .ref (ad 0)), (1, .int x1), (2, .int x2), (3, .long x3)]) hx hb dX12_put_6 hl (by decide) rfl (fun ls hl => ?_)
    have hl := lv_sub hl [1, 2, 3, 4, 0] (l' := [(0, .ref (ad 0)), (1, .int x1), (2, .int x2), (3, .long x3), (5, .int r2)]) rfl
    refine lv_iload hx hb dX12_put_8 (lv_at hl 4 rfl) ?_
    refine lv_if_eq (tgt := 16) hx hb dX12_put_10 (by decide) (fun hcd => ?_) (fun hcd => ?_)
    · have h := cdP hcd h
      refine lv_aload_n hx hb dX12_put_16 rfl (lv_at hl 0 rfl) ?_
      refine ux_get (D := (dC, dI)) (ci := 12) (v := .ref (ad 31)) (C := RX12) (T := TX12) (M := 59) (fs := (oM ad (σ.1 0))) hx hb hts (fun _ h9 => List.mem_cons_of_mem _ (List.mem_append_right _ h9)) hown hK hP 0 (Nat.le_of_ble_eq_true rfl) rfl rfl 40 (by decide) (hts (.fieldLink RX12 105 "SeatsRoundModel" "shelfSort" "[I") (List.mem_of_getElem? (i := 1) rfl)) (fun _ h9 => h9) rfl dX12_put_17 ?_
      refine lv_iload_n hx hb dX12_put_20 rfl (lv_at hl 1 rfl) ?_
      refine ux_iald hx hb hK hP 31 0 (Nat.le_of_ble_eq_true rfl) (cM_31 _ _ _ _) rfl h dX12_put_21 (fun v4 h => ?_)
      refine lv_istore (lv' := [(6, .int v4), (0, .ref (ad 0)), (1, .int x1), (2, .int x2), (3, .long x3), (5, .int r2)]) hx hb dX12_put_22 hl (by decide) rfl (fun ls hl => ?_)
      have hl := lv_sub hl [1, 2, 3, 4, 5, 0] (l' := [(0, .ref (ad 0)), (1, .int x1), (2, .int x2), (3, .long x3), (5, .int r2), (6, .int v4)]) rfl
      refine lv_aload_n hx hb dX12_put_24 rfl (lv_at hl 0 rfl) ?_
      refine ux_get (D := (dC, dI)) (ci := 12) (v := .ref (ad 33)) (C := RX12) (T := TX12) (M := 59) (fs := (oM ad (σ.1 0))) hx hb hts (fun _ h9 => List.mem_cons_of_mem _ (List.mem_append_right _ h9)) hown hK hP 0 (Nat.le_of_ble_eq_true rfl) rfl rfl 42 (by decide) (hts (.fieldLink RX12 111 "SeatsRoundModel" "elements" "[J") (List.mem_of_getElem? (i := 2) rfl)) (fun _ h9 => h9) rfl dX12_put_25 ?_
      refine lv_bipush (v := 60) hx hb dX12_put_28 (by decide) ?_
      refine lv_iload_n hx hb dX12_put_30 rfl (lv_at hl 1 rfl) ?_
      refine lv_imul hx hb dX12_put_31 ?_
      refine lv_iload_n hx hb dX12_put_32 rfl (lv_at hl 2 rfl) ?_
      refine lv_iadd hx hb dX12_put_33 ?_
      change W _ _ _ _ _ _ _ _ _ _ _ _ _ _ _ (F0 m 34 ls [.int ((60 * x1) + x2), .ref (ad 33)])
      refine lv_iload hx hb dX12_put_34 (lv_at hl 5 rfl) ?_
      refine lv_if_ne (tgt := 46) hx hb dX12_put_36 (by decide) (fun hcd => ?_) (fun hcd => ?_)
      · have h := cdN hcd h
        refine lv_iload hx hb dX12_put_46 (lv_at hl 5 rfl) ?_
        refine lv_iconst (v := 1) hx hb dX12_put_48 (by decide) ?_
        refine lv_icmp_ne (tgt := 59) hx hb dX12_put_49 (by decide) (fun hcd => ?_) (fun hcd => ?_)
        · have h := cdN hcd h
          refine lv_iload hx hb dX12_put_59 (lv_at hl 5 rfl) ?_
          refine lv_iconst (v := 2) hx hb dX12_put_61 (by decide) ?_
          refine lv_icmp_ne (tgt := 71) hx hb dX12_put_62 (by decide) (fun hcd => ?_) (fun hcd => ?_)
          · have h := cdN hcd h
            refine lv_iload hx hb dX12_put_71 (lv_at hl 5 rfl) ?_
            refine lv_iconst (v := 3) hx hb dX12_put_73 (by decide) ?_
            refine lv_icmp_ne (tgt := 81) hx hb dX12_put_74 (by decide) (fun hcd => ?_) (fun hcd => ?_)
            · have h := cdN hcd h
              refine lv_lload_n hx hb dX12_put_81 rfl (lv_at hl 3 rfl) ?_
              refine lv_lconst (v := 0) hx hb dX12_put_82 (by decide) ?_
              refine W.lcmp hx hb dX12_put_83 ?_
              refine lv_if_eq (tgt := 91) hx hb dX12_put_84 (by decide) (fun hcd => ?_) (fun hcd => ?_)
              · have h := cdP hcd h
                refine lv_lconst (v := 0) hx hb dX12_put_91 (by decide) ?_
                exact w92 σ 0 ((60 * x1) + x2) H locs ls h hP hD hS (lv_sub hl [] rfl)
              · have h := cdN hcd h
                refine lv_lconst (v := 1) hx hb dX12_put_87 (by decide) ?_
                refine lv_goto (tgt := 92) hx hb dX12_put_88 (by decide) ?_
                exact w92 σ 1 ((60 * x1) + x2) H locs ls h hP hD hS (lv_sub hl [] rfl)
            · have h := cdP hcd h
              refine lv_lload_n hx hb dX12_put_77 rfl (lv_at hl 3 rfl) ?_
              refine lv_goto (tgt := 92) hx hb dX12_put_78 (by decide) ?_
              exact w92 σ x3 ((60 * x1) + x2) H locs ls h hP hD hS (lv_sub hl [] rfl)
          · have h := cdP hcd h
            refine lv_lload_n hx hb dX12_put_65 rfl (lv_at hl 3 rfl) ?_
            refine lv_l2i hx hb dX12_put_66 rfl ?_
            refine lv_i2l hx hb dX12_put_67 rfl ?_
            refine lv_goto (tgt := 92) hx hb dX12_put_68 (by decide) ?_
            exact w92 σ (Int32.toInt64 (Int64.toInt32 x3)) ((60 * x1) + x2) H locs ls h hP hD hS (lv_sub hl [] rfl)
        · have h := cdP hcd h
          refine lv_lload_n hx hb dX12_put_52 rfl (lv_at hl 3 rfl) ?_
          refine lv_l2i hx hb dX12_put_53 rfl ?_
          refine lv_i2s hx hb dX12_put_54 rfl ?_
          refine lv_i2l hx hb dX12_put_55 rfl ?_
          refine lv_goto (tgt := 92) hx hb dX12_put_56 (by decide) ?_
          exact w92 σ (Int32.toInt64 (Int16.toInt32 (Int32.toInt16 (Int64.toInt32 x3)))) ((60 * x1) + x2) H locs ls h hP hD hS (lv_sub hl [] rfl)
      · have h := cdP hcd h
        refine lv_lload_n hx hb dX12_put_39 rfl (lv_at hl 3 rfl) ?_
        refine lv_l2i hx hb dX12_put_40 rfl ?_
        refine lv_i2b hx hb dX12_put_41 rfl ?_
        refine lv_i2l hx hb dX12_put_42 rfl ?_
        refine lv_goto (tgt := 92) hx hb dX12_put_43 (by decide) ?_
        exact w92 σ (Int32.toInt64 (Int8.toInt32 (Int32.toInt8 (Int64.toInt32 x3)))) ((60 * x1) + x2) H locs ls h hP hD hS (lv_sub hl [] rfl)
    · have h := cdN hcd h
      refine lv_iload hx hb dX12_put_13 (lv_at hl 4 rfl) ?_
      exact ux_iret hx hb hr h hP hD hS hlocks dX12_put_15
  intro H locs ls h hP hD hS hl
  exact w0 σ a1 a2 a3 H locs ls h hP hD hS (lv_sub hl [0, 1, 2, 3] rfl)

set_option maxHeartbeats 4000000 in
set_option maxRecDepth 100000 in
theorem tX12_element (l : Launch) (dC : Nat → ClassId) (dI : Nat → Nat → Nat) (cy : Nat → ClassId) (ad : Nat → Nat) (σ : S2) (a1 : Int32) (a2 : Int32) (sz : Nat) (r0 : Int64) (h : fX12_element σ a1 a2 = some r0) : Met l yX12_element wsX12_element ({ frames := 4, cells := 0, slots := 0, locals := 87 }) (va_Pc [.ref (ad 0), .int a1, .int a2] (wPre (dC, dI) cy (wG (cM cy ad) ad 40 σ) sz)) (va_Ql (fun (r : Int64) (_ : Unit) => r = r0) (fun (_ : Unit) t => wAt (dC, dI) (va_A (wG (cM cy ad) ad 40 σ) sz) (wG (cM cy ad) ad 40 σ) t) (va_A (wG (cM cy ad) ad 40 σ) sz)) 0 0 (va_A (wG (cM cy ad) ad 40 σ) sz) := by
  refine Met.ofW (cc := cX12_element) (maxL := 3) (ret := (some .long)) (by decide) rfl ?_
  intro p e s m args below meth c s₁ B hml hv
  obtain ⟨rfl, hsz, hP, hK, hD0, hN⟩ := hv
  have hx := B.exec
  have hb := B.bytes
  have hr := B.returns
  have hts := atoms_spec (ws := wsX12_element) B.pre
  have hown : s.vm.findClass RX12 = some m.cls := findClass_of_methodNamed B.named
  have hlocks := B.notSynchronized
  subst hsz
  have hD := hD0.self (sz := s.heap.size)
  generalize hAe : va_A (wG (cM cy ad) ad 40 σ) s.heap.size = A at hD ⊢
  have hA : ∀ q : Nat, s.heap.size ≤ q → A q := fun q h => by rw [← hAe]; exact Or.inr h
  have hS : va_S A s.heap s.heap [] := va_S.rf
  have hl := lv_entry ([.ref (ad 0), .int a1, .int a2]) (n := 3) (Nat.le_of_ble_eq_true rfl)
  rw [lg_entry_eq]
  generalize (lg_sl ([.ref (ad 0), .int a1, .int a2]) ++ List.replicate (3 - (lg_sl ([.ref (ad 0), .int a1, .int a2])).length) Slot.unset).toArray = ls at hl ⊢
  have hl : lv_has ls 3 [(0, .ref (ad 0)), (1, .int a1), (2, .int a2)] := hl
  unfold fX12_element at h
  clear hAe hD0
  suffices HH : ∀ (H : Heap) (locs : List Loc) (ls : Array Slot), fX12_element_0 σ a1 a2 = some r0 → va_P (dC, dI) vwCl (wG (cM cy ad) ad 40 σ) H → va_D A (wG (cM cy ad) ad 40 σ) → va_S A s.heap H locs → lv_has ls 3 [(0, .ref (ad 0)), (1, .int a1), (2, .int a2)] → W p l e (headSpec wsX12_element ({ frames := 4, cells := 0, slots := 0, locals := 87 })).room s m (#[.ref (ad 0), .int a1, .int a2]) below meth c H locs 0 0 (MQ below (va_Ql (fun (r : Int64) (_ : Unit) => r = r0) (fun (_ : Unit) t => wAt (dC, dI) A (wG (cM cy ad) ad 40 σ) t) A) (#[.ref (ad 0), .int a1, .int a2]) s 0 0 A) (F0 m 0 ls []) from HH s.heap [] ls h hP hD hS hl
  have w0 : ∀ (σ : S2) (x1 : Int32) (x2 : Int32) (H : Heap) (locs : List Loc) (ls : Array Slot), fX12_element_0 σ x1 x2 = some r0 → va_P (dC, dI) vwCl (wG (cM cy ad) ad 40 σ) H → va_D A (wG (cM cy ad) ad 40 σ) → va_S A s.heap H locs → lv_has ls 3 [(0, .ref (ad 0)), (1, .int x1), (2, .int x2)] → W p l e (headSpec wsX12_element ({ frames := 4, cells := 0, slots := 0, locals := 87 })).room s m (#[.ref (ad 0), .int a1, .int a2]) below meth c H locs 0 0 (MQ below (va_Ql (fun (r : Int64) (_ : Unit) => r = r0) (fun (_ : Unit) t => wAt (dC, dI) A (wG (cM cy ad) ad 40 σ) t) A) (#[.ref (ad 0), .int a1, .int a2]) s 0 0 A) (F0 m 0 ls []) := by
    intro σ x1 x2 H locs ls h hP hD hS hl
    unfold fX12_element_0 at h
    refine lv_aload_n hx hb dX12_element_0 rfl (lv_at hl 0 rfl) ?_
    refine lv_iload_n hx hb dX12_element_1 rfl (lv_at hl 1 rfl) ?_
    refine lv_iload_n hx hb dX12_element_2 rfl (lv_at hl 2 rfl) ?_
    obtain ⟨r1, hf2, h⟩ := biS h
    refine ux_calli (va_runV (As := [.int x1, .int x2]) (rest := []) ⟨hx, hb, hml, hown, hts⟩ (tX12_barred l dC dI cy ad σ x1 x2 H.size r1 hf2) (cwV 2 hts gX12_element_X12_barred rfl rfl rfl (by decide +kernel) ⟨Nat.le_of_ble_eq_true rfl, Nat.le_of_ble_eq_true rfl⟩) (wp_V hK hN hP hD (va_recv hK hP (ci := 12) (q0 := 0) rfl (wG_of (Nat.le_of_ble_eq_true rfl) rfl))) rfl rfl hl.1 rfl (lv_room (Nat.le_of_ble_eq_true rfl)) dX12_element_3 ⟨Nat.le_of_ble_eq_true rfl, Nat.le_of_ble_eq_true rfl⟩) hD hS hA (fun H locs hP hD hS => ?_)
    refine lv_if_eq (tgt := 15) hx hb dX12_element_6 (by decide) (fun hcd => ?_) (fun hcd => ?_)
    · have h := cdP hcd h
      refine lv_aload_n hx hb dX12_element_15 rfl (lv_at hl 0 rfl) ?_
      refine ux_get (D := (dC, dI)) (ci := 12) (v := .ref (ad 33)) (C := RX12) (T := TX12) (M := 59) (fs := (oM ad (σ.1 0))) hx hb hts (fun _ h9 => List.mem_cons_of_mem _ (List.mem_append_right _ h9)) hown hK hP 0 (Nat.le_of_ble_eq_true rfl) rfl rfl 42 (by decide) (hts (.fieldLink RX12 111 "SeatsRoundModel" "elements" "[J") (List.mem_of_getElem? (i := 2) rfl)) (fun _ h9 => h9) rfl dX12_element_16 ?_
      refine lv_bipush (v := 60) hx hb dX12_element_19 (by decide) ?_
      refine lv_iload_n hx hb dX12_element_21 rfl (lv_at hl 1 rfl) ?_
      refine lv_imul hx hb dX12_element_22 ?_
      refine lv_iload_n hx hb dX12_element_23 rfl (lv_at hl 2 rfl) ?_
      refine lv_iadd hx hb dX12_element_24 ?_
      refine ux_lald hx hb hK hP 33 4 (Nat.le_of_ble_eq_true rfl) (cM_33 _ _ _ _) rfl h dX12_element_25 (fun v3 h => ?_)
      change W _ _ _ _ _ _ _ _ _ _ _ _ _ _ _ (F0 m 26 ls [.long v3])
      exact ux_lretP hx hb hr h hP hD hS hlocks dX12_element_26
    · have h := cdN hcd h
      refine lv_ldc2 hx hb hown (hts (.constantLong RX12 361 (-9223372036854775808)) (List.mem_of_getElem? (i := 1) rfl)) dX12_element_9 ?_
      refine lv_goto (tgt := 26) hx hb dX12_element_12 (by decide) ?_
      exact ux_lretP hx hb hr h hP hD hS hlocks dX12_element_26
  intro H locs ls h hP hD hS hl
  exact w0 σ a1 a2 H locs ls h hP hD hS (lv_sub hl [0, 1, 2] rfl)

set_option maxHeartbeats 4000000 in
set_option maxRecDepth 100000 in
theorem tX12_shift (l : Launch) (dC : Nat → ClassId) (dI : Nat → Nat → Nat) (cy : Nat → ClassId) (ad : Nat → Nat) (σ : S2) (a1 : Int32) (a2 : Int32) (a3 : Int32) (a4 : Int32) (a5 : Int32) (sz : Nat) (r0 : Int32) (σ9 : S2) (h : fX12_shift σ a1 a2 a3 a4 a5 = some (r0, σ9)) : Met l yX12_shift wsX12_shift ({ frames := 3, cells := 0, slots := 0, locals := 65 }) (va_Pc [.ref (ad 0), .int a1, .int a2, .int a3, .int a4, .int a5] (wPre (dC, dI) cy (wG (cM cy ad) ad 40 σ) sz)) (va_Qi (fun (r : Int32) (_ : Unit) => r = r0) (fun (_ : Unit) t => wAt (dC, dI) (va_A (wG (cM cy ad) ad 40 σ) sz) (wG (cM cy ad) ad 40 σ9) t) (va_A (wG (cM cy ad) ad 40 σ) sz)) 0 0 (va_A (wG (cM cy ad) ad 40 σ) sz) := by
  refine Met.ofW (cc := cX12_shift) (maxL := 10) (ret := (some .int)) (by decide) rfl ?_
  intro p e s m args below meth c s₁ B hml hv
  obtain ⟨rfl, hsz, hP, hK, hD0, hN⟩ := hv
  have hx := B.exec
  have hb := B.bytes
  have hr := B.returns
  have hts := atoms_spec (ws := wsX12_shift) B.pre
  have hown : s.vm.findClass RX12 = some m.cls := findClass_of_methodNamed B.named
  have hlocks := B.notSynchronized
  subst hsz
  have hD := hD0.self (sz := s.heap.size)
  generalize hAe : va_A (wG (cM cy ad) ad 40 σ) s.heap.size = A at hD ⊢
  have hA : ∀ q : Nat, s.heap.size ≤ q → A q := fun q h => by rw [← hAe]; exact Or.inr h
  have hS : va_S A s.heap s.heap [] := va_S.rf
  have hl := lv_entry ([.ref (ad 0), .int a1, .int a2, .int a3, .int a4, .int a5]) (n := 10) (Nat.le_of_ble_eq_true rfl)
  rw [lg_entry_eq]
  generalize (lg_sl ([.ref (ad 0), .int a1, .int a2, .int a3, .int a4, .int a5]) ++ List.replicate (10 - (lg_sl ([.ref (ad 0), .int a1, .int a2, .int a3, .int a4, .int a5])).length) Slot.unset).toArray = ls at hl ⊢
  have hl : lv_has ls 10 [(0, .ref (ad 0)), (1, .int a1), (2, .int a2), (3, .int a3), (4, .int a4), (5, .int a5)] := hl
  unfold fX12_shift at h
  clear hAe hD0
  suffices HH : ∀ (H : Heap) (locs : List Loc) (ls : Array Slot), fX12_shift_0 σ a1 a2 a3 a4 a5 = some (r0, σ9) → va_P (dC, dI) vwCl (wG (cM cy ad) ad 40 σ) H → va_D A (wG (cM cy ad) ad 40 σ) → va_S A s.heap H locs → lv_has ls 10 [(0, .ref (ad 0)), (1, .int a1), (2, .int a2), (3, .int a3), (4, .int a4), (5, .int a5)] → W p l e (headSpec wsX12_shift ({ frames := 3, cells := 0, slots := 0, locals := 65 })).room s m (#[.ref (ad 0), .int a1, .int a2, .int a3, .int a4, .int a5]) below meth c H locs 0 0 (MQ below (va_Qi (fun (r : Int32) (_ : Unit) => r = r0) (fun (_ : Unit) t => wAt (dC, dI) A (wG (cM cy ad) ad 40 σ9) t) A) (#[.ref (ad 0), .int a1, .int a2, .int a3, .int a4, .int a5]) s 0 0 A) (F0 m 0 ls []) from HH s.heap [] ls h hP hD hS hl
  have w193 : ∀ (k167 : S2 → Int32 → Int32 → Int32 → Int32 → Option (Int32 × S2)) (hk167 : ∀ (σ : S2) (x5 : Int32) (x6 : Int32) (x7 : Int32) (x8 : Int32) (H : Heap) (locs : List Loc) (ls : Array Slot), k167 σ x5 x6 x7 x8 = some (r0, σ9) → va_P (dC, dI) vwCl (wG (cM cy ad) ad 40 σ) H → va_D A (wG (cM cy ad) ad 40 σ) → va_S A s.heap H locs → lv_has ls 10 [(0, .ref (ad 0)), (5, .int x5), (6, .int x6), (7, .int x7), (8, .int x8)] → W p l e (headSpec wsX12_shift ({ frames := 3, cells := 0, slots := 0, locals := 65 })).room s m (#[.ref (ad 0), .int a1, .int a2, .int a3, .int a4, .int a5]) below meth c H locs 0 0 (MQ below (va_Qi (fun (r : Int32) (_ : Unit) => r = r0) (fun (_ : Unit) t => wAt (dC, dI) A (wG (cM cy ad) ad 40 σ9) t) A) (#[.ref (ad 0), .int a1, .int a2, .int a3, .int a4, .int a5]) s 0 0 A) (F0 m 167 ls [])) , ∀ (σ : S2) (x5 : Int32) (x6 : Int32) (x7 : Int32) (x8 : Int32) (s0 : Int32) (H : Heap) (locs : List Loc) (ls : Array Slot), fX12_shift_193 k167 σ x5 x6 x7 x8 s0 = some (r0, σ9) → va_P (dC, dI) vwCl (wG (cM cy ad) ad 40 σ) H → va_D A (wG (cM cy ad) ad 40 σ) → va_S A s.heap H locs → lv_has ls 10 [(0, .ref (ad 0)), (5, .int x5), (6, .int x6), (7, .int x7), (8, .int x8)] → W p l e (headSpec wsX12_shift ({ frames := 3, cells := 0, slots := 0, locals := 65 })).room s m (#[.ref (ad 0), .int a1, .int a2, .int a3, .int a4, .int a5]) below meth c H locs 0 0 (MQ below (va_Qi (fun (r : Int32) (_ : Unit) => r = r0) (fun (_ : Unit) t => wAt (dC, dI) A (wG (cM cy ad) ad 40 σ9) t) A) (#[.ref (ad 0), .int a1, .int a2, .int a3, .int a4, .int a5]) s 0 0 A) (F0 m 193 ls [.int s0]) := by
    intro k167 hk167 σ x5 x6 x7 x8 s0 H locs ls h hP hD hS hl
    unfold fX12_shift_193 at h
    refine lv_istore (lv' := [(9, .int s0), (0, .ref (ad 0)), (5, .int x5), (6, .int x6), (7, .int x7), (8, .int x8)]) hx hb dX12_shift_193 hl (by decide) rfl (fun ls hl => ?_)
    have hl := lv_sub hl [1, 2, 3, 4, 5, 0] (l' := [(0, .ref (ad 0)), (5, .int x5), (6, .int x6), (7, .int x7), (8, .int x8), (9, .int s0)]) rfl
    refine lv_aload_n hx hb dX12_shift_195 rfl (lv_at hl 0 rfl) ?_
    refine ux_get (D := (dC, dI)) (ci := 12) (v := .ref (ad 33)) (C := RX12) (T := TX12) (M := 59) (fs := (oM ad (σ.1 0))) hx hb hts (fun _ h9 => List.mem_cons_of_mem _ (List.mem_append_right _ h9)) hown hK hP 0 (Nat.le_of_ble_eq_true rfl) rfl rfl 42 (by decide) (hts (.fieldLink RX12 111 "SeatsRoundModel" "elements" "[J") (List.mem_of_getElem? (i := 4) rfl)) (fun _ h9 => h9) rfl dX12_shift_196 ?_
    refine lv_iload hx hb dX12_shift_199 (lv_at hl 3 rfl) ?_
    refine lv_iload hx hb dX12_shift_201 (lv_at hl 5 rfl) ?_
    refine lv_iadd hx hb dX12_shift_203 ?_
    refine lv_aload_n hx hb dX12_shift_204 rfl (lv_at hl 0 rfl) ?_
    refine ux_get (D := (dC, dI)) (ci := 12) (v := .ref (ad 33)) (C := RX12) (T := TX12) (M := 59) (fs := (oM ad (σ.1 0))) hx hb hts (fun _ h9 => List.mem_cons_of_mem _ (List.mem_append_right _ h9)) hown hK hP 0 (Nat.le_of_ble_eq_true rfl) rfl rfl 42 (by decide) (hts (.fieldLink RX12 111 "SeatsRoundModel" "elements" "[J") (List.mem_of_getElem? (i := 4) rfl)) (fun _ h9 => h9) rfl dX12_shift_205 ?_
    change W _ _ _ _ _ _ _ _ _ _ _ _ _ _ _ (F0 m 208 ls [.ref (ad 33), .int (x7 + s0), .ref (ad 33)])
    refine lv_iload hx hb dX12_shift_208 (lv_at hl 2 rfl) ?_
    refine lv_iload hx hb dX12_shift_210 (lv_at hl 5 rfl) ?_
    refine lv_iadd hx hb dX12_shift_212 ?_
    refine ux_lald hx hb hK hP 33 4 (Nat.le_of_ble_eq_true rfl) (cM_33 _ _ _ _) rfl h dX12_shift_213 (fun v1 h => ?_)
    refine ux_last hx hb hK hP hD hS 33 4 (Nat.le_of_ble_eq_true rfl) (fun _ => (cM_33 _ _ _ _)) rfl h dX12_shift_214 (fun σ2 H locs h hP hD hS => ?_)
    obtain ⟨v3, ev3⟩ : ∃ y : Int32, y = x8 + 1 := ⟨_, rfl⟩
    have h := nmS h ev3
    refine lv_iinc (v := v3) (lv' := [(8, .int v3), (0, .ref (ad 0)), (5, .int x5), (6, .int x6), (7, .int x7), (9, .int s0)]) hx hb dX12_shift_215 hl (k := 4) rfl (by rw [ev3]; rfl) (by decide) rfl (fun ls hl => ?_)
    have hl := lv_sub hl [1, 2, 3, 4, 0, 5] (l' := [(0, .ref (ad 0)), (5, .int x5), (6, .int x6), (7, .int x7), (8, .int v3), (9, .int s0)]) rfl
    refine lv_goto (tgt := 167) hx hb dX12_shift_218 (by decide) ?_
    exact hk167 σ2 x5 x6 x7 v3 H locs ls h hP hD hS (lv_sub hl [0, 1, 2, 3, 4] rfl)
  have w167 : ∀ (n : Nat), ∀ (σ : S2) (x5 : Int32) (x6 : Int32) (x7 : Int32) (x8 : Int32) (H : Heap) (locs : List Loc) (ls : Array Slot), fX12_shift_167 n σ x5 x6 x7 x8 = some (r0, σ9) → va_P (dC, dI) vwCl (wG (cM cy ad) ad 40 σ) H → va_D A (wG (cM cy ad) ad 40 σ) → va_S A s.heap H locs → lv_has ls 10 [(0, .ref (ad 0)), (5, .int x5), (6, .int x6), (7, .int x7), (8, .int x8)] → W p l e (headSpec wsX12_shift ({ frames := 3, cells := 0, slots := 0, locals := 65 })).room s m (#[.ref (ad 0), .int a1, .int a2, .int a3, .int a4, .int a5]) below meth c H locs 0 0 (MQ below (va_Qi (fun (r : Int32) (_ : Unit) => r = r0) (fun (_ : Unit) t => wAt (dC, dI) A (wG (cM cy ad) ad 40 σ9) t) A) (#[.ref (ad 0), .int a1, .int a2, .int a3, .int a4, .int a5]) s 0 0 A) (F0 m 167 ls []) := by
    intro n
    induction n with
    | zero => intro σ x5 x6 x7 x8 H locs ls h; cases h
    | succ n ih =>
    intro σ x5 x6 x7 x8 H locs ls h hP hD hS hl
    unfold fX12_shift_167 at h
    refine lv_iload hx hb dX12_shift_167 (lv_at hl 4 rfl) ?_
    refine lv_iload hx hb dX12_shift_169 (lv_at hl 1 rfl) ?_
    refine lv_icmp_ge (tgt := 221) hx hb dX12_shift_171 (by decide) (fun hcd => ?_) (fun hcd => ?_)
    · have h := cdP hcd h
      refine lv_iload hx hb dX12_shift_221 (lv_at hl 1 rfl) ?_
      exact ux_iret hx hb hr h hP hD hS hlocks dX12_shift_223
    · have h := cdN hcd h
      refine lv_iload hx hb dX12_shift_174 (lv_at hl 2 rfl) ?_
      refine lv_iload hx hb dX12_shift_176 (lv_at hl 3 rfl) ?_
      refine lv_icmp_ge (tgt := 191) hx hb dX12_shift_178 (by decide) (fun hcd => ?_) (fun hcd => ?_)
      · have h := cdP hcd h
        refine lv_iload hx hb dX12_shift_191 (lv_at hl 4 rfl) ?_
        exact w193 _ ih σ x5 x6 x7 x8 x8 H locs ls h hP hD hS hl
      · have h := cdN hcd h
        refine lv_iload hx hb dX12_shift_181 (lv_at hl 1 rfl) ?_
        refine lv_iconst (v := 1) hx hb dX12_shift_183 (by decide) ?_
        refine lv_isub hx hb dX12_shift_184 ?_
        refine lv_iload hx hb dX12_shift_185 (lv_at hl 4 rfl) ?_
        refine lv_isub hx hb dX12_shift_187 ?_
        refine lv_goto (tgt := 193) hx hb dX12_shift_188 (by decide) ?_
        exact w193 _ ih σ x5 x6 x7 x8 ((x5 - 1) - x8) H locs ls h hP hD hS hl
  have w55 : ∀ (σ : S2) (x1 : Int32) (x2 : Int32) (x3 : Int32) (x4 : Int32) (x5 : Int32) (H : Heap) (locs : List Loc) (ls : Array Slot), fX12_shift_55 σ x1 x2 x3 x4 x5 = some (r0, σ9) → va_P (dC, dI) vwCl (wG (cM cy ad) ad 40 σ) H → va_D A (wG (cM cy ad) ad 40 σ) → va_S A s.heap H locs → lv_has ls 10 [(0, .ref (ad 0)), (1, .int x1), (2, .int x2), (3, .int x3), (4, .int x4), (5, .int x5)] → W p l e (headSpec wsX12_shift ({ frames := 3, cells := 0, slots := 0, locals := 65 })).room s m (#[.ref (ad 0), .int a1, .int a2, .int a3, .int a4, .int a5]) below meth c H locs 0 0 (MQ below (va_Qi (fun (r : Int32) (_ : Unit) => r = r0) (fun (_ : Unit) t => wAt (dC, dI) A (wG (cM cy ad) ad 40 σ9) t) A) (#[.ref (ad 0), .int a1, .int a2, .int a3, .int a4, .int a5]) s 0 0 A) (F0 m 55 ls []) := by
    intro σ x1 x2 x3 x4 x5 H locs ls h hP hD hS hl
    unfold fX12_shift_55 at h
    refine lv_aload_n hx hb dX12_shift_55 rfl (lv_at hl 0 rfl) ?_
    refine ux_get (D := (dC, dI)) (ci := 12) (v := .ref (ad 31)) (C := RX12) (T := TX12) (M := 59) (fs := (oM ad (σ.1 0))) hx hb hts (fun _ h9 => List.mem_cons_of_mem _ (List.mem_append_right _ h9)) hown hK hP 0 (Nat.le_of_ble_eq_true rfl) rfl rfl 40 (by decide) (hts (.fieldLink RX12 105 "SeatsRoundModel" "shelfSort" "[I") (List.mem_of_getElem? (i := 1) rfl)) (fun _ h9 => h9) rfl dX12_shift_56 ?_
    refine lv_iload_n hx hb dX12_shift_59 rfl (lv_at hl 1 rfl) ?_
    refine ux_iald hx hb hK hP 31 0 (Nat.le_of_ble_eq_true rfl) (cM_31 _ _ _ _) rfl h dX12_shift_60 (fun v4 h => ?_)
    refine lv_if_lt (tgt := 79) hx hb dX12_shift_61 (by decide) (fun hcd => ?_) (fun hcd => ?_)
    · have h := cdP hcd h
      refine lv_bipush (v := (-12)) hx hb dX12_shift_79 (by decide) ?_
      exact ux_iret hx hb hr h hP hD hS hlocks dX12_shift_81
    · have h := cdN hcd h
      refine lv_aload_n hx hb dX12_shift_64 rfl (lv_at hl 0 rfl) ?_
      refine ux_get (D := (dC, dI)) (ci := 12) (v := .ref (ad 31)) (C := RX12) (T := TX12) (M := 59) (fs := (oM ad (σ.1 0))) hx hb hts (fun _ h9 => List.mem_cons_of_mem _ (List.mem_append_right _ h9)) hown hK hP 0 (Nat.le_of_ble_eq_true rfl) rfl rfl 40 (by decide) (hts (.fieldLink RX12 105 "SeatsRoundModel" "shelfSort" "[I") (List.mem_of_getElem? (i := 1) rfl)) (fun _ h9 => h9) rfl dX12_shift_65 ?_
      refine lv_iload_n hx hb dX12_shift_68 rfl (lv_at hl 1 rfl) ?_
      refine ux_iald hx hb hK hP 31 0 (Nat.le_of_ble_eq_true rfl) (cM_31 _ _ _ _) rfl h dX12_shift_69 (fun v5 h => ?_)
      refine lv_aload_n hx hb dX12_shift_70 rfl (lv_at hl 0 rfl) ?_
      refine ux_get (D := (dC, dI)) (ci := 12) (v := .ref (ad 31)) (C := RX12) (T := TX12) (M := 59) (fs := (oM ad (σ.1 0))) hx hb hts (fun _ h9 => List.mem_cons_of_mem _ (List.mem_append_right _ h9)) hown hK hP 0 (Nat.le_of_ble_eq_true rfl) rfl rfl 40 (by decide) (hts (.fieldLink RX12 105 "SeatsRoundModel" "shelfSort" "[I") (List.mem_of_getElem? (i := 1) rfl)) (fun _ h9 => h9) rfl dX12_shift_71 ?_
      refine lv_iload_n hx hb dX12_shift_74 rfl (lv_at hl 3 rfl) ?_
      refine ux_iald hx hb hK hP 31 0 (Nat.le_of_ble_eq_true rfl) (cM_31 _ _ _ _) rfl h dX12_shift_75 (fun v6 h => ?_)
      refine lv_icmp_eq (tgt := 82) hx hb dX12_shift_76 (by decide) (fun hcd => ?_) (fun hcd => ?_)
      · have h := cdP hcd h
        refine lv_iload hx hb dX12_shift_82 (lv_at hl 5 rfl) ?_
        refine lv_if_lt (tgt := 144) hx hb dX12_shift_84 (by decide) (fun hcd => ?_) (fun hcd => ?_)
        · have h := cdP hcd h
          refine lv_bipush (v := (-13)) hx hb dX12_shift_144 (by decide) ?_
          exact ux_iret hx hb hr h hP hD hS hlocks dX12_shift_146
        · have h := cdN hcd h
          refine lv_iload_n hx hb dX12_shift_87 rfl (lv_at hl 2 rfl) ?_
          refine lv_if_lt (tgt := 144) hx hb dX12_shift_88 (by decide) (fun hcd => ?_) (fun hcd => ?_)
          · have h := cdP hcd h
            refine lv_bipush (v := (-13)) hx hb dX12_shift_144 (by decide) ?_
            exact ux_iret hx hb hr h hP hD hS hlocks dX12_shift_146
          · have h := cdN hcd h
            refine lv_iload hx hb dX12_shift_91 (lv_at hl 4 rfl) ?_
            refine lv_if_lt (tgt := 144) hx hb dX12_shift_93 (by decide) (fun hcd => ?_) (fun hcd => ?_)
            · have h := cdP hcd h
              refine lv_bipush (v := (-13)) hx hb dX12_shift_144 (by decide) ?_
              exact ux_iret hx hb hr h hP hD hS hlocks dX12_shift_146
            · have h := cdN hcd h
              refine lv_iload_n hx hb dX12_shift_96 rfl (lv_at hl 2 rfl) ?_
              refine lv_aload_n hx hb dX12_shift_97 rfl (lv_at hl 0 rfl) ?_
              refine ux_get (D := (dC, dI)) (ci := 12) (v := .ref (ad 32)) (C := RX12) (T := TX12) (M := 59) (fs := (oM ad (σ.1 0))) hx hb hts (fun _ h9 => List.mem_cons_of_mem _ (List.mem_append_right _ h9)) hown hK hP 0 (Nat.le_of_ble_eq_true rfl) rfl rfl 41 (by decide) (hts (.fieldLink RX12 108 "SeatsRoundModel" "shelfSize" "[I") (List.mem_of_getElem? (i := 3) rfl)) (fun _ h9 => h9) rfl dX12_shift_98 ?_
              refine lv_iload_n hx hb dX12_shift_101 rfl (lv_at hl 1 rfl) ?_
              refine ux_iald hx hb hK hP 32 0 (Nat.le_of_ble_eq_true rfl) (cM_32 _ _ _ _) rfl h dX12_shift_102 (fun v7 h => ?_)
              refine lv_icmp_gt (tgt := 144) hx hb dX12_shift_103 (by decide) (fun hcd => ?_) (fun hcd => ?_)
              · have h := cdP hcd h
                refine lv_bipush (v := (-13)) hx hb dX12_shift_144 (by decide) ?_
                exact ux_iret hx hb hr h hP hD hS hlocks dX12_shift_146
              · have h := cdN hcd h
                refine lv_iload hx hb dX12_shift_106 (lv_at hl 4 rfl) ?_
                refine lv_aload_n hx hb dX12_shift_108 rfl (lv_at hl 0 rfl) ?_
                refine ux_get (D := (dC, dI)) (ci := 12) (v := .ref (ad 32)) (C := RX12) (T := TX12) (M := 59) (fs := (oM ad (σ.1 0))) hx hb hts (fun _ h9 => List.mem_cons_of_mem _ (List.mem_append_right _ h9)) hown hK hP 0 (Nat.le_of_ble_eq_true rfl) rfl rfl 41 (by decide) (hts (.fieldLink RX12 108 "SeatsRoundModel" "shelfSize" "[I") (List.mem_of_getElem? (i := 3) rfl)) (fun _ h9 => h9) rfl dX12_shift_109 ?_
                refine lv_iload_n hx hb dX12_shift_112 rfl (lv_at hl 3 rfl) ?_
                refine ux_iald hx hb hK hP 32 0 (Nat.le_of_ble_eq_true rfl) (cM_32 _ _ _ _) rfl h dX12_shift_113 (fun v8 h => ?_)
                refine lv_icmp_gt (tgt := 144) hx hb dX12_shift_114 (by decide) (fun hcd => ?_) (fun hcd => ?_)
                · have h := cdP hcd h
                  refine lv_bipush (v := (-13)) hx hb dX12_shift_144 (by decide) ?_
                  exact ux_iret hx hb hr h hP hD hS hlocks dX12_shift_146
                · have h := cdN hcd h
                  refine lv_iload hx hb dX12_shift_117 (lv_at hl 5 rfl) ?_
                  refine lv_aload_n hx hb dX12_shift_119 rfl (lv_at hl 0 rfl) ?_
                  refine ux_get (D := (dC, dI)) (ci := 12) (v := .ref (ad 32)) (C := RX12) (T := TX12) (M := 59) (fs := (oM ad (σ.1 0))) hx hb hts (fun _ h9 => List.mem_cons_of_mem _ (List.mem_append_right _ h9)) hown hK hP 0 (Nat.le_of_ble_eq_true rfl) rfl rfl 41 (by decide) (hts (.fieldLink RX12 108 "SeatsRoundModel" "shelfSize" "[I") (List.mem_of_getElem? (i := 3) rfl)) (fun _ h9 => h9) rfl dX12_shift_120 ?_
                  refine lv_iload_n hx hb dX12_shift_123 rfl (lv_at hl 1 rfl) ?_
                  refine ux_iald hx hb hK hP 32 0 (Nat.le_of_ble_eq_true rfl) (cM_32 _ _ _ _) rfl h dX12_shift_124 (fun v9 h => ?_)
                  refine lv_iload_n hx hb dX12_shift_125 rfl (lv_at hl 2 rfl) ?_
                  refine lv_isub hx hb dX12_shift_126 ?_
                  refine lv_icmp_gt (tgt := 144) hx hb dX12_shift_127 (by decide) (fun hcd => ?_) (fun hcd => ?_)
                  · have h := cdP hcd h
                    refine lv_bipush (v := (-13)) hx hb dX12_shift_144 (by decide) ?_
                    exact ux_iret hx hb hr h hP hD hS hlocks dX12_shift_146
                  · have h := cdN hcd h
                    refine lv_iload hx hb dX12_shift_130 (lv_at hl 5 rfl) ?_
                    refine lv_aload_n hx hb dX12_shift_132 rfl (lv_at hl 0 rfl) ?_
                    refine ux_get (D := (dC, dI)) (ci := 12) (v := .ref (ad 32)) (C := RX12) (T := TX12) (M := 59) (fs := (oM ad (σ.1 0))) hx hb hts (fun _ h9 => List.mem_cons_of_mem _ (List.mem_append_right _ h9)) hown hK hP 0 (Nat.le_of_ble_eq_true rfl) rfl rfl 41 (by decide) (hts (.fieldLink RX12 108 "SeatsRoundModel" "shelfSize" "[I") (List.mem_of_getElem? (i := 3) rfl)) (fun _ h9 => h9) rfl dX12_shift_133 ?_
                    refine lv_iload_n hx hb dX12_shift_136 rfl (lv_at hl 3 rfl) ?_
                    refine ux_iald hx hb hK hP 32 0 (Nat.le_of_ble_eq_true rfl) (cM_32 _ _ _ _) rfl h dX12_shift_137 (fun v10 h => ?_)
                    refine lv_iload hx hb dX12_shift_138 (lv_at hl 4 rfl) ?_
                    refine lv_isub hx hb dX12_shift_140 ?_
                    refine lv_icmp_le (tgt := 147) hx hb dX12_shift_141 (by decide) (fun hcd => ?_) (fun hcd => ?_)
                    · have h := cdP hcd h
                      refine lv_bipush (v := 60) hx hb dX12_shift_147 (by decide) ?_
                      refine lv_iload_n hx hb dX12_shift_149 rfl (lv_at hl 1 rfl) ?_
                      refine lv_imul hx hb dX12_shift_150 ?_
                      refine lv_iload_n hx hb dX12_shift_151 rfl (lv_at hl 2 rfl) ?_
                      refine lv_iadd hx hb dX12_shift_152 ?_
                      refine lv_topi (fun v11 ev11 => ?_)
                      have h := nmS h ev11
                      refine lv_istore (lv' := [(6, .int v11), (0, .ref (ad 0)), (1, .int x1), (2, .int x2), (3, .int x3), (4, .int x4), (5, .int x5)]) hx hb dX12_shift_153 hl (by decide) rfl (fun ls hl => ?_)
                      have hl := lv_sub hl [1, 2, 3, 4, 5, 6, 0] (l' := [(0, .ref (ad 0)), (1, .int x1), (2, .int x2), (3, .int x3), (4, .int x4), (5, .int x5), (6, .int v11)]) rfl
                      refine lv_bipush (v := 60) hx hb dX12_shift_155 (by decide) ?_
                      refine lv_iload_n hx hb dX12_shift_157 rfl (lv_at hl 3 rfl) ?_
                      refine lv_imul hx hb dX12_shift_158 ?_
                      refine lv_iload hx hb dX12_shift_159 (lv_at hl 4 rfl) ?_
                      refine lv_iadd hx hb dX12_shift_161 ?_
                      refine lv_topi (fun v12 ev12 => ?_)
                      have h := nmS h ev12
                      refine lv_istore (lv' := [(7, .int v12), (0, .ref (ad 0)), (1, .int x1), (2, .int x2), (3, .int x3), (4, .int x4), (5, .int x5), (6, .int v11)]) hx hb dX12_shift_162 hl (by decide) rfl (fun ls hl => ?_)
                      have hl := lv_sub hl [1, 2, 3, 4, 5, 6, 7, 0] (l' := [(0, .ref (ad 0)), (1, .int x1), (2, .int x2), (3, .int x3), (4, .int x4), (5, .int x5), (6, .int v11), (7, .int v12)]) rfl
                      refine lv_iconst (v := 0) hx hb dX12_shift_164 (by decide) ?_
                      refine lv_istore (lv' := [(8, .int 0), (0, .ref (ad 0)), (1, .int x1), (2, .int x2), (3, .int x3), (4, .int x4), (5, .int x5), (6, .int v11), (7, .int v12)]) hx hb dX12_shift_165 hl (by decide) rfl (fun ls hl => ?_)
                      have hl := lv_sub hl [1, 2, 3, 4, 5, 6, 7, 8, 0] (l' := [(0, .ref (ad 0)), (1, .int x1), (2, .int x2), (3, .int x3), (4, .int x4), (5, .int x5), (6, .int v11), (7, .int v12), (8, .int 0)]) rfl
                      exact w167 FU σ x5 v11 v12 0 H locs ls h hP hD hS (lv_sub hl [0, 5, 6, 7, 8] rfl)
                    · have h := cdN hcd h
                      refine lv_bipush (v := (-13)) hx hb dX12_shift_144 (by decide) ?_
                      exact ux_iret hx hb hr h hP hD hS hlocks dX12_shift_146
      · have h := cdN hcd h
        refine lv_bipush (v := (-12)) hx hb dX12_shift_79 (by decide) ?_
        exact ux_iret hx hb hr h hP hD hS hlocks dX12_shift_81
  have w34 : ∀ (σ : S2) (x1 : Int32) (x2 : Int32) (x3 : Int32) (x4 : Int32) (x5 : Int32) (H : Heap) (locs : List Loc) (ls : Array Slot), fX12_shift_34 σ x1 x2 x3 x4 x5 = some (r0, σ9) → va_P (dC, dI) vwCl (wG (cM cy ad) ad 40 σ) H → va_D A (wG (cM cy ad) ad 40 σ) → va_S A s.heap H locs → lv_has ls 10 [(0, .ref (ad 0)), (1, .int x1), (2, .int x2), (3, .int x3), (4, .int x4), (5, .int x5)] → W p l e (headSpec wsX12_shift ({ frames := 3, cells := 0, slots := 0, locals := 65 })).room s m (#[.ref (ad 0), .int a1, .int a2, .int a3, .int a4, .int a5]) below meth c H locs 0 0 (MQ below (va_Qi (fun (r : Int32) (_ : Unit) => r = r0) (fun (_ : Unit) t => wAt (dC, dI) A (wG (cM cy ad) ad 40 σ9) t) A) (#[.ref (ad 0), .int a1, .int a2, .int a3, .int a4, .int a5]) s 0 0 A) (F0 m 34 ls []) := by
    intro σ x1 x2 x3 x4 x5 H locs ls h hP hD hS hl
    unfold fX12_shift_34 at h
    refine lv_aload_n hx hb dX12_shift_34 rfl (lv_at hl 0 rfl) ?_
    refine ux_get (D := (dC, dI)) (ci := 12) (v := .ref (ad 31)) (C := RX12) (T := TX12) (M := 59) (fs := (oM ad (σ.1 0))) hx hb hts (fun _ h9 => List.mem_cons_of_mem _ (List.mem_append_right _ h9)) hown hK hP 0 (Nat.le_of_ble_eq_true rfl) rfl rfl 40 (by decide) (hts (.fieldLink RX12 105 "SeatsRoundModel" "shelfSort" "[I") (List.mem_of_getElem? (i := 1) rfl)) (fun _ h9 => h9) rfl dX12_shift_35 ?_
    refine lv_iload_n hx hb dX12_shift_38 rfl (lv_at hl 3 rfl) ?_
    refine ux_iald hx hb hK hP 31 0 (Nat.le_of_ble_eq_true rfl) (cM_31 _ _ _ _) rfl h dX12_shift_39 (fun v13 h => ?_)
    refine lv_if_ge (tgt := 55) hx hb dX12_shift_40 (by decide) (fun hcd => ?_) (fun hcd => ?_)
    · have h := cdP hcd h
      exact w55 σ x1 x2 x3 x4 x5 H locs ls h hP hD hS hl
    · have h := cdN hcd h
      refine lv_aload_n hx hb dX12_shift_43 rfl (lv_at hl 0 rfl) ?_
      refine ux_get (D := (dC, dI)) (ci := 12) (v := .ref (ad 30)) (C := RX12) (T := TX12) (M := 59) (fs := (oM ad (σ.1 0))) hx hb hts (fun _ h9 => List.mem_cons_of_mem _ (List.mem_append_right _ h9)) hown hK hP 0 (Nat.le_of_ble_eq_true rfl) rfl rfl 39 (by decide) (hts (.fieldLink RX12 102 "SeatsRoundModel" "shelfIs" "[I") (List.mem_of_getElem? (i := 2) rfl)) (fun _ h9 => h9) rfl dX12_shift_44 ?_
      refine lv_iload_n hx hb dX12_shift_47 rfl (lv_at hl 3 rfl) ?_
      refine ux_iald hx hb hK hP 30 0 (Nat.le_of_ble_eq_true rfl) (cM_30 _ _ _ _) rfl h dX12_shift_48 (fun v14 h => ?_)
      refine lv_if_ge (tgt := 55) hx hb dX12_shift_49 (by decide) (fun hcd => ?_) (fun hcd => ?_)
      · have h := cdP hcd h
        exact w55 σ x1 x2 x3 x4 x5 H locs ls h hP hD hS hl
      · have h := cdN hcd h
        refine lv_bipush (v := (-11)) hx hb dX12_shift_52 (by decide) ?_
        exact ux_iret hx hb hr h hP hD hS hlocks dX12_shift_54
  have w0 : ∀ (σ : S2) (x1 : Int32) (x2 : Int32) (x3 : Int32) (x4 : Int32) (x5 : Int32) (H : Heap) (locs : List Loc) (ls : Array Slot), fX12_shift_0 σ x1 x2 x3 x4 x5 = some (r0, σ9) → va_P (dC, dI) vwCl (wG (cM cy ad) ad 40 σ) H → va_D A (wG (cM cy ad) ad 40 σ) → va_S A s.heap H locs → lv_has ls 10 [(0, .ref (ad 0)), (1, .int x1), (2, .int x2), (3, .int x3), (4, .int x4), (5, .int x5)] → W p l e (headSpec wsX12_shift ({ frames := 3, cells := 0, slots := 0, locals := 65 })).room s m (#[.ref (ad 0), .int a1, .int a2, .int a3, .int a4, .int a5]) below meth c H locs 0 0 (MQ below (va_Qi (fun (r : Int32) (_ : Unit) => r = r0) (fun (_ : Unit) t => wAt (dC, dI) A (wG (cM cy ad) ad 40 σ9) t) A) (#[.ref (ad 0), .int a1, .int a2, .int a3, .int a4, .int a5]) s 0 0 A) (F0 m 0 ls []) := by
    intro σ x1 x2 x3 x4 x5 H locs ls h hP hD hS hl
    unfold fX12_shift_0 at h
    refine lv_iload_n hx hb dX12_shift_0 rfl (lv_at hl 1 rfl) ?_
    obtain ⟨r15, hf16, h⟩ := biS h
    refine ux_calli (va_runS (As := [.int x1]) (rest := []) ⟨hx, hb, hml, hown, hts⟩ (tX12_isShelf l dC dI cy ad σ x1 H.size r15 hf16) (va_cwS 1 hts gX12_shift_X12_isShelf rfl rfl rfl (by decide +kernel) ⟨Nat.le_of_ble_eq_true rfl, Nat.le_of_ble_eq_true rfl⟩) (wp_S hK hN hP hD) rfl rfl hl.1 rfl (lv_room (Nat.le_of_ble_eq_true rfl)) dX12_shift_1 ⟨Nat.le_of_ble_eq_true rfl, Nat.le_of_ble_eq_true rfl⟩) hD hS hA (fun H locs hP hD hS => ?_)
    refine lv_if_eq (tgt := 14) hx hb dX12_shift_4 (by decide) (fun hcd => ?_) (fun hcd => ?_)
    · have h := cdP hcd h
      refine lv_iconst (v := (-1)) hx hb dX12_shift_14 (by decide) ?_
      exact ux_iret hx hb hr h hP hD hS hlocks dX12_shift_15
    · have h := cdN hcd h
      refine lv_iload_n hx hb dX12_shift_7 rfl (lv_at hl 3 rfl) ?_
      obtain ⟨r17, hf18, h⟩ := biS h
      refine ux_calli (va_runS (As := [.int x3]) (rest := []) ⟨hx, hb, hml, hown, hts⟩ (tX12_isShelf l dC dI cy ad σ x3 H.size r17 hf18) (va_cwS 1 hts gX12_shift_X12_isShelf rfl rfl rfl (by decide +kernel) ⟨Nat.le_of_ble_eq_true rfl, Nat.le_of_ble_eq_true rfl⟩) (wp_S hK hN hP hD) rfl rfl hl.1 rfl (lv_room (Nat.le_of_ble_eq_true rfl)) dX12_shift_8 ⟨Nat.le_of_ble_eq_true rfl, Nat.le_of_ble_eq_true rfl⟩) hD hS hA (fun H locs hP hD hS => ?_)
      refine lv_if_ne (tgt := 16) hx hb dX12_shift_11 (by decide) (fun hcd => ?_) (fun hcd => ?_)
      · have h := cdN hcd h
        refine lv_aload_n hx hb dX12_shift_16 rfl (lv_at hl 0 rfl) ?_
        refine ux_get (D := (dC, dI)) (ci := 12) (v := .ref (ad 31)) (C := RX12) (T := TX12) (M := 59) (fs := (oM ad (σ.1 0))) hx hb hts (fun _ h9 => List.mem_cons_of_mem _ (List.mem_append_right _ h9)) hown hK hP 0 (Nat.le_of_ble_eq_true rfl) rfl rfl 40 (by decide) (hts (.fieldLink RX12 105 "SeatsRoundModel" "shelfSort" "[I") (List.mem_of_getElem? (i := 1) rfl)) (fun _ h9 => h9) rfl dX12_shift_17 ?_
        refine lv_iload_n hx hb dX12_shift_20 rfl (lv_at hl 1 rfl) ?_
        refine ux_iald hx hb hK hP 31 0 (Nat.le_of_ble_eq_true rfl) (cM_31 _ _ _ _) rfl h dX12_shift_21 (fun v19 h => ?_)
        refine lv_if_ge (tgt := 34) hx hb dX12_shift_22 (by decide) (fun hcd => ?_) (fun hcd => ?_)
        · have h := cdP hcd h
          exact w34 σ x1 x2 x3 x4 x5 H locs ls h hP hD hS hl
        · have h := cdN hcd h
          refine lv_aload_n hx hb dX12_shift_25 rfl (lv_at hl 0 rfl) ?_
          refine ux_get (D := (dC, dI)) (ci := 12) (v := .ref (ad 30)) (C := RX12) (T := TX12) (M := 59) (fs := (oM ad (σ.1 0))) hx hb hts (fun _ h9 => List.mem_cons_of_mem _ (List.mem_append_right _ h9)) hown hK hP 0 (Nat.le_of_ble_eq_true rfl) rfl rfl 39 (by decide) (hts (.fieldLink RX12 102 "SeatsRoundModel" "shelfIs" "[I") (List.mem_of_getElem? (i := 2) rfl)) (fun _ h9 => h9) rfl dX12_shift_26 ?_
          refine lv_iload_n hx hb dX12_shift_29 rfl (lv_at hl 1 rfl) ?_
          refine ux_iald hx hb hK hP 30 0 (Nat.le_of_ble_eq_true rfl) (cM_30 _ _ _ _) rfl h dX12_shift_30 (fun v20 h => ?_)
          refine lv_if_lt (tgt := 52) hx hb dX12_shift_31 (by decide) (fun hcd => ?_) (fun hcd => ?_)
          · have h := cdP hcd h
            refine lv_bipush (v := (-11)) hx hb dX12_shift_52 (by decide) ?_
            exact ux_iret hx hb hr h hP hD hS hlocks dX12_shift_54
          · have h := cdN hcd h
            exact w34 σ x1 x2 x3 x4 x5 H locs ls h hP hD hS hl
      · have h := cdP hcd h
        refine lv_iconst (v := (-1)) hx hb dX12_shift_14 (by decide) ?_
        exact ux_iret hx hb hr h hP hD hS hlocks dX12_shift_15
  intro H locs ls h hP hD hS hl
  exact w0 σ a1 a2 a3 a4 a5 H locs ls h hP hD hS (lv_sub hl [0, 1, 2, 3, 4, 5] rfl)

set_option maxHeartbeats 4000000 in
set_option maxRecDepth 100000 in
theorem tX12_taken (l : Launch) (dC : Nat → ClassId) (dI : Nat → Nat → Nat) (cy : Nat → ClassId) (ad : Nat → Nat) (σ : S2) (a1 : Int32) (a2 : Int32) (sz : Nat) (r0 : Int32) (h : fX12_taken σ a1 a2 = some r0) : Met l yX12_taken wsX12_taken ({ frames := 3, cells := 0, slots := 0, locals := 65 }) (va_Pc [.ref (ad 0), .int a1, .int a2] (wPre (dC, dI) cy (wG (cM cy ad) ad 40 σ) sz)) (va_Qi (fun (r : Int32) (_ : Unit) => r = r0) (fun (_ : Unit) t => wAt (dC, dI) (va_A (wG (cM cy ad) ad 40 σ) sz) (wG (cM cy ad) ad 40 σ) t) (va_A (wG (cM cy ad) ad 40 σ) sz)) 0 0 (va_A (wG (cM cy ad) ad 40 σ) sz) := by
  refine Met.ofW (cc := cX12_taken) (maxL := 4) (ret := (some .int)) (by decide) rfl ?_
  intro p e s m args below meth c s₁ B hml hv
  obtain ⟨rfl, hsz, hP, hK, hD0, hN⟩ := hv
  have hx := B.exec
  have hb := B.bytes
  have hr := B.returns
  have hts := atoms_spec (ws := wsX12_taken) B.pre
  have hown : s.vm.findClass RX12 = some m.cls := findClass_of_methodNamed B.named
  have hlocks := B.notSynchronized
  subst hsz
  have hD := hD0.self (sz := s.heap.size)
  generalize hAe : va_A (wG (cM cy ad) ad 40 σ) s.heap.size = A at hD ⊢
  have hA : ∀ q : Nat, s.heap.size ≤ q → A q := fun q h => by rw [← hAe]; exact Or.inr h
  have hS : va_S A s.heap s.heap [] := va_S.rf
  have hl := lv_entry ([.ref (ad 0), .int a1, .int a2]) (n := 4) (Nat.le_of_ble_eq_true rfl)
  rw [lg_entry_eq]
  generalize (lg_sl ([.ref (ad 0), .int a1, .int a2]) ++ List.replicate (4 - (lg_sl ([.ref (ad 0), .int a1, .int a2])).length) Slot.unset).toArray = ls at hl ⊢
  have hl : lv_has ls 4 [(0, .ref (ad 0)), (1, .int a1), (2, .int a2)] := hl
  unfold fX12_taken at h
  clear hAe hD0
  suffices HH : ∀ (H : Heap) (locs : List Loc) (ls : Array Slot), fX12_taken_0 σ a1 a2 = some r0 → va_P (dC, dI) vwCl (wG (cM cy ad) ad 40 σ) H → va_D A (wG (cM cy ad) ad 40 σ) → va_S A s.heap H locs → lv_has ls 4 [(0, .ref (ad 0)), (1, .int a1), (2, .int a2)] → W p l e (headSpec wsX12_taken ({ frames := 3, cells := 0, slots := 0, locals := 65 })).room s m (#[.ref (ad 0), .int a1, .int a2]) below meth c H locs 0 0 (MQ below (va_Qi (fun (r : Int32) (_ : Unit) => r = r0) (fun (_ : Unit) t => wAt (dC, dI) A (wG (cM cy ad) ad 40 σ) t) A) (#[.ref (ad 0), .int a1, .int a2]) s 0 0 A) (F0 m 0 ls []) from HH s.heap [] ls h hP hD hS hl
  have w84 : ∀ (σ : S2) (x3 : Int32) (H : Heap) (locs : List Loc) (ls : Array Slot), fX12_taken_84 σ x3 = some r0 → va_P (dC, dI) vwCl (wG (cM cy ad) ad 40 σ) H → va_D A (wG (cM cy ad) ad 40 σ) → va_S A s.heap H locs → lv_has ls 4 [(3, .int x3)] → W p l e (headSpec wsX12_taken ({ frames := 3, cells := 0, slots := 0, locals := 65 })).room s m (#[.ref (ad 0), .int a1, .int a2]) below meth c H locs 0 0 (MQ below (va_Qi (fun (r : Int32) (_ : Unit) => r = r0) (fun (_ : Unit) t => wAt (dC, dI) A (wG (cM cy ad) ad 40 σ) t) A) (#[.ref (ad 0), .int a1, .int a2]) s 0 0 A) (F0 m 84 ls []) := by
    intro σ x3 H locs ls h hP hD hS hl
    unfold fX12_taken_84 at h
    refine lv_iload_n hx hb dX12_taken_84 rfl (lv_at hl 0 rfl) ?_
    refine lv_goto (tgt := 90) hx hb dX12_taken_85 (by decide) ?_
    exact ux_iretP hx hb hr h hP hD hS hlocks dX12_taken_90
  have w40 : ∀ (σ : S2) (x1 : Int32) (x2 : Int32) (H : Heap) (locs : List Loc) (ls : Array Slot), fX12_taken_40 σ x1 x2 = some r0 → va_P (dC, dI) vwCl (wG (cM cy ad) ad 40 σ) H → va_D A (wG (cM cy ad) ad 40 σ) → va_S A s.heap H locs → lv_has ls 4 [(0, .ref (ad 0)), (1, .int x1), (2, .int x2)] → W p l e (headSpec wsX12_taken ({ frames := 3, cells := 0, slots := 0, locals := 65 })).room s m (#[.ref (ad 0), .int a1, .int a2]) below meth c H locs 0 0 (MQ below (va_Qi (fun (r : Int32) (_ : Unit) => r = r0) (fun (_ : Unit) t => wAt (dC, dI) A (wG (cM cy ad) ad 40 σ) t) A) (#[.ref (ad 0), .int a1, .int a2]) s 0 0 A) (F0 m 40 ls []) := by
    intro σ x1 x2 H locs ls h hP hD hS hl
    unfold fX12_taken_40 at h
    refine lv_aload_n hx hb dX12_taken_40 rfl (lv_at hl 0 rfl) ?_
    refine ux_get (D := (dC, dI)) (ci := 12) (v := .ref (ad 30)) (C := RX12) (T := TX12) (M := 59) (fs := (oM ad (σ.1 0))) hx hb hts (fun _ h9 => List.mem_cons_of_mem _ (List.mem_append_right _ h9)) hown hK hP 0 (Nat.le_of_ble_eq_true rfl) rfl rfl 39 (by decide) (hts (.fieldLink RX12 102 "SeatsRoundModel" "shelfIs" "[I") (List.mem_of_getElem? (i := 2) rfl)) (fun _ h9 => h9) rfl dX12_taken_41 ?_
    refine lv_iload_n hx hb dX12_taken_44 rfl (lv_at hl 1 rfl) ?_
    refine ux_iald hx hb hK hP 30 0 (Nat.le_of_ble_eq_true rfl) (cM_30 _ _ _ _) rfl h dX12_taken_45 (fun v1 h => ?_)
    refine lv_if_ge (tgt := 52) hx hb dX12_taken_46 (by decide) (fun hcd => ?_) (fun hcd => ?_)
    · have h := cdP hcd h
      refine lv_aload_n hx hb dX12_taken_52 rfl (lv_at hl 0 rfl) ?_
      refine ux_get (D := (dC, dI)) (ci := 12) (v := .ref (ad 5)) (C := RX12) (T := TX12) (M := 59) (fs := (oM ad (σ.1 0))) hx hb hts (fun _ h9 => List.mem_cons_of_mem _ (List.mem_append_right _ h9)) hown hK hP 0 (Nat.le_of_ble_eq_true rfl) rfl rfl 6 (by decide) (hts (.fieldLink RX12 22 "SeatsRoundModel" "kind" "[I") (List.mem_of_getElem? (i := 3) rfl)) (fun _ h9 => h9) rfl dX12_taken_53 ?_
      refine lv_aload_n hx hb dX12_taken_56 rfl (lv_at hl 0 rfl) ?_
      refine ux_get (D := (dC, dI)) (ci := 12) (v := .ref (ad 30)) (C := RX12) (T := TX12) (M := 59) (fs := (oM ad (σ.1 0))) hx hb hts (fun _ h9 => List.mem_cons_of_mem _ (List.mem_append_right _ h9)) hown hK hP 0 (Nat.le_of_ble_eq_true rfl) rfl rfl 39 (by decide) (hts (.fieldLink RX12 102 "SeatsRoundModel" "shelfIs" "[I") (List.mem_of_getElem? (i := 2) rfl)) (fun _ h9 => h9) rfl dX12_taken_57 ?_
      refine lv_iload_n hx hb dX12_taken_60 rfl (lv_at hl 1 rfl) ?_
      refine ux_iald hx hb hK hP 30 0 (Nat.le_of_ble_eq_true rfl) (cM_30 _ _ _ _) rfl h dX12_taken_61 (fun v2 h => ?_)
      refine ux_iald hx hb hK hP 5 0 (Nat.le_of_ble_eq_true rfl) (cM_5 _ _ _ _) rfl h dX12_taken_62 (fun v3 h => ?_)
      refine lv_istore_n (lv' := [(3, .int v3), (0, .ref (ad 0)), (1, .int x1), (2, .int x2)]) hx hb dX12_taken_63 rfl hl (by decide) rfl (fun ls hl => ?_)
      have hl := lv_sub hl [1, 2, 3, 0] (l' := [(0, .ref (ad 0)), (1, .int x1), (2, .int x2), (3, .int v3)]) rfl
      refine lv_iload_n hx hb dX12_taken_64 rfl (lv_at hl 2 rfl) ?_
      refine lv_if_eq (tgt := 84) hx hb dX12_taken_65 (by decide) (fun hcd => ?_) (fun hcd => ?_)
      · have h := cdP hcd h
        exact w84 σ v3 H locs ls h hP hD hS (lv_sub hl [3] rfl)
      · have h := cdN hcd h
        refine lv_iload_n hx hb dX12_taken_68 rfl (lv_at hl 2 rfl) ?_
        refine lv_iload_n hx hb dX12_taken_69 rfl (lv_at hl 3 rfl) ?_
        refine lv_icmp_eq (tgt := 84) hx hb dX12_taken_70 (by decide) (fun hcd => ?_) (fun hcd => ?_)
        · have h := cdP hcd h
          exact w84 σ v3 H locs ls h hP hD hS (lv_sub hl [3] rfl)
        · have h := cdN hcd h
          refine lv_iload_n hx hb dX12_taken_73 rfl (lv_at hl 2 rfl) ?_
          refine lv_iconst (v := 1) hx hb dX12_taken_74 (by decide) ?_
          refine lv_icmp_ne (tgt := 88) hx hb dX12_taken_75 (by decide) (fun hcd => ?_) (fun hcd => ?_)
          · have h := cdN hcd h
            refine lv_bipush (v := (-12)) hx hb dX12_taken_88 (by decide) ?_
            exact ux_iretP hx hb hr h hP hD hS hlocks dX12_taken_90
          · have h := cdP hcd h
            refine lv_iload_n hx hb dX12_taken_78 rfl (lv_at hl 3 rfl) ?_
            refine lv_bipush (v := 6) hx hb dX12_taken_79 (by decide) ?_
            refine lv_icmp_ne (tgt := 88) hx hb dX12_taken_81 (by decide) (fun hcd => ?_) (fun hcd => ?_)
            · have h := cdN hcd h
              refine lv_bipush (v := (-12)) hx hb dX12_taken_88 (by decide) ?_
              exact ux_iretP hx hb hr h hP hD hS hlocks dX12_taken_90
            · have h := cdP hcd h
              exact w84 σ v3 H locs ls h hP hD hS (lv_sub hl [3] rfl)
    · have h := cdN hcd h
      refine lv_bipush (v := (-12)) hx hb dX12_taken_49 (by decide) ?_
      exact ux_iretP hx hb hr h hP hD hS hlocks dX12_taken_51
  have w0 : ∀ (σ : S2) (x1 : Int32) (x2 : Int32) (H : Heap) (locs : List Loc) (ls : Array Slot), fX12_taken_0 σ x1 x2 = some r0 → va_P (dC, dI) vwCl (wG (cM cy ad) ad 40 σ) H → va_D A (wG (cM cy ad) ad 40 σ) → va_S A s.heap H locs → lv_has ls 4 [(0, .ref (ad 0)), (1, .int x1), (2, .int x2)] → W p l e (headSpec wsX12_taken ({ frames := 3, cells := 0, slots := 0, locals := 65 })).room s m (#[.ref (ad 0), .int a1, .int a2]) below meth c H locs 0 0 (MQ below (va_Qi (fun (r : Int32) (_ : Unit) => r = r0) (fun (_ : Unit) t => wAt (dC, dI) A (wG (cM cy ad) ad 40 σ) t) A) (#[.ref (ad 0), .int a1, .int a2]) s 0 0 A) (F0 m 0 ls []) := by
    intro σ x1 x2 H locs ls h hP hD hS hl
    unfold fX12_taken_0 at h
    refine lv_iload_n hx hb dX12_taken_0 rfl (lv_at hl 1 rfl) ?_
    obtain ⟨r4, hf5, h⟩ := biS h
    refine ux_calli (va_runS (As := [.int x1]) (rest := []) ⟨hx, hb, hml, hown, hts⟩ (tX12_isShelf l dC dI cy ad σ x1 H.size r4 hf5) (va_cwS 1 hts gX12_taken_X12_isShelf rfl rfl rfl (by decide +kernel) ⟨Nat.le_of_ble_eq_true rfl, Nat.le_of_ble_eq_true rfl⟩) (wp_S hK hN hP hD) rfl rfl hl.1 rfl (lv_room (Nat.le_of_ble_eq_true rfl)) dX12_taken_1 ⟨Nat.le_of_ble_eq_true rfl, Nat.le_of_ble_eq_true rfl⟩) hD hS hA (fun H locs hP hD hS => ?_)
    refine lv_if_eq (tgt := 17) hx hb dX12_taken_4 (by decide) (fun hcd => ?_) (fun hcd => ?_)
    · have h := cdP hcd h
      refine lv_iconst (v := (-1)) hx hb dX12_taken_17 (by decide) ?_
      exact ux_iretP hx hb hr h hP hD hS hlocks dX12_taken_18
    · have h := cdN hcd h
      refine lv_iload_n hx hb dX12_taken_7 rfl (lv_at hl 2 rfl) ?_
      refine lv_iconst (v := 0) hx hb dX12_taken_8 (by decide) ?_
      refine lv_bipush (v := 6) hx hb dX12_taken_9 (by decide) ?_
      obtain ⟨r6, hf7, h⟩ := biS h
      refine ux_calli (va_runS (As := [.int x2, .int 0, .int 6]) (rest := []) ⟨hx, hb, hml, hown, hts⟩ (tX12_in l dC dI cy ad σ x2 0 6 H.size r6 hf7) (va_cwS 3 hts gX12_taken_X12_in rfl rfl rfl (by decide +kernel) ⟨Nat.le_of_ble_eq_true rfl, Nat.le_of_ble_eq_true rfl⟩) (wp_S hK hN hP hD) rfl rfl hl.1 rfl (lv_room (Nat.le_of_ble_eq_true rfl)) dX12_taken_11 ⟨Nat.le_of_ble_eq_true rfl, Nat.le_of_ble_eq_true rfl⟩) hD hS hA (fun H locs hP hD hS => ?_)
      refine lv_if_ne (tgt := 19) hx hb dX12_taken_14 (by decide) (fun hcd => ?_) (fun hcd => ?_)
      · have h := cdN hcd h
        refine lv_aload_n hx hb dX12_taken_19 rfl (lv_at hl 0 rfl) ?_
        refine ux_get (D := (dC, dI)) (ci := 12) (v := .ref (ad 31)) (C := RX12) (T := TX12) (M := 59) (fs := (oM ad (σ.1 0))) hx hb hts (fun _ h9 => List.mem_cons_of_mem _ (List.mem_append_right _ h9)) hown hK hP 0 (Nat.le_of_ble_eq_true rfl) rfl rfl 40 (by decide) (hts (.fieldLink RX12 105 "SeatsRoundModel" "shelfSort" "[I") (List.mem_of_getElem? (i := 1) rfl)) (fun _ h9 => h9) rfl dX12_taken_20 ?_
        refine lv_iload_n hx hb dX12_taken_23 rfl (lv_at hl 1 rfl) ?_
        refine ux_iald hx hb hK hP 31 0 (Nat.le_of_ble_eq_true rfl) (cM_31 _ _ _ _) rfl h dX12_taken_24 (fun v8 h => ?_)
        refine lv_if_ge (tgt := 40) hx hb dX12_taken_25 (by decide) (fun hcd => ?_) (fun hcd => ?_)
        · have h := cdP hcd h
          exact w40 σ x1 x2 H locs ls h hP hD hS hl
        · have h := cdN hcd h
          refine lv_aload_n hx hb dX12_taken_28 rfl (lv_at hl 0 rfl) ?_
          refine ux_get (D := (dC, dI)) (ci := 12) (v := .ref (ad 30)) (C := RX12) (T := TX12) (M := 59) (fs := (oM ad (σ.1 0))) hx hb hts (fun _ h9 => List.mem_cons_of_mem _ (List.mem_append_right _ h9)) hown hK hP 0 (Nat.le_of_ble_eq_true rfl) rfl rfl 39 (by decide) (hts (.fieldLink RX12 102 "SeatsRoundModel" "shelfIs" "[I") (List.mem_of_getElem? (i := 2) rfl)) (fun _ h9 => h9) rfl dX12_taken_29 ?_
          refine lv_iload_n hx hb dX12_taken_32 rfl (lv_at hl 1 rfl) ?_
          refine ux_iald hx hb hK hP 30 0 (Nat.le_of_ble_eq_true rfl) (cM_30 _ _ _ _) rfl h dX12_taken_33 (fun v9 h => ?_)
          refine lv_if_ge (tgt := 40) hx hb dX12_taken_34 (by decide) (fun hcd => ?_) (fun hcd => ?_)
          · have h := cdP hcd h
            exact w40 σ x1 x2 H locs ls h hP hD hS hl
          · have h := cdN hcd h
            refine lv_bipush (v := (-11)) hx hb dX12_taken_37 (by decide) ?_
            exact ux_iretP hx hb hr h hP hD hS hlocks dX12_taken_39
      · have h := cdP hcd h
        refine lv_iconst (v := (-1)) hx hb dX12_taken_17 (by decide) ?_
        exact ux_iretP hx hb hr h hP hD hS hlocks dX12_taken_18
  intro H locs ls h hP hD hS hl
  exact w0 σ a1 a2 H locs ls h hP hD hS (lv_sub hl [0, 1, 2] rfl)

set_option maxHeartbeats 4000000 in
set_option maxRecDepth 100000 in
theorem tX12_names (l : Launch) (dC : Nat → ClassId) (dI : Nat → Nat → Nat) (cy : Nat → ClassId) (ad : Nat → Nat) (σ : S2) (a1 : Int32) (a2 : Int32) (a3 : Int32) (sz : Nat) (r0 : Int32) (σ9 : S2) (h : fX12_names σ a1 a2 a3 = some (r0, σ9)) : Met l yX12_names wsX12_names ({ frames := 3, cells := 0, slots := 0, locals := 65 }) (va_Pc [.ref (ad 0), .int a1, .int a2, .int a3] (wPre (dC, dI) cy (wG (cM cy ad) ad 40 σ) sz)) (va_Qi (fun (r : Int32) (_ : Unit) => r = r0) (fun (_ : Unit) t => wAt (dC, dI) (va_A (wG (cM cy ad) ad 40 σ) sz) (wG (cM cy ad) ad 40 σ9) t) (va_A (wG (cM cy ad) ad 40 σ) sz)) 0 0 (va_A (wG (cM cy ad) ad 40 σ) sz) := by
  refine Met.ofW (cc := cX12_names) (maxL := 11) (ret := (some .int)) (by decide) rfl ?_
  intro p e s m args below meth c s₁ B hml hv
  obtain ⟨rfl, hsz, hP, hK, hD0, hN⟩ := hv
  have hx := B.exec
  have hb := B.bytes
  have hr := B.returns
  have hts := atoms_spec (ws := wsX12_names) B.pre
  have hown : s.vm.findClass RX12 = some m.cls := findClass_of_methodNamed B.named
  have hlocks := B.notSynchronized
  subst hsz
  have hD := hD0.self (sz := s.heap.size)
  generalize hAe : va_A (wG (cM cy ad) ad 40 σ) s.heap.size = A at hD ⊢
  have hA : ∀ q : Nat, s.heap.size ≤ q → A q := fun q h => by rw [← hAe]; exact Or.inr h
  have hS : va_S A s.heap s.heap [] := va_S.rf
  have hl := lv_entry ([.ref (ad 0), .int a1, .int a2, .int a3]) (n := 11) (Nat.le_of_ble_eq_true rfl)
  rw [lg_entry_eq]
  generalize (lg_sl ([.ref (ad 0), .int a1, .int a2, .int a3]) ++ List.replicate (11 - (lg_sl ([.ref (ad 0), .int a1, .int a2, .int a3])).length) Slot.unset).toArray = ls at hl ⊢
  have hl : lv_has ls 11 [(0, .ref (ad 0)), (1, .int a1), (2, .int a2), (3, .int a3)] := hl
  unfold fX12_names at h
  clear hAe hD0
  suffices HH : ∀ (H : Heap) (locs : List Loc) (ls : Array Slot), fX12_names_0 σ a1 a2 a3 = some (r0, σ9) → va_P (dC, dI) vwCl (wG (cM cy ad) ad 40 σ) H → va_D A (wG (cM cy ad) ad 40 σ) → va_S A s.heap H locs → lv_has ls 11 [(0, .ref (ad 0)), (1, .int a1), (2, .int a2), (3, .int a3)] → W p l e (headSpec wsX12_names ({ frames := 3, cells := 0, slots := 0, locals := 65 })).room s m (#[.ref (ad 0), .int a1, .int a2, .int a3]) below meth c H locs 0 0 (MQ below (va_Qi (fun (r : Int32) (_ : Unit) => r = r0) (fun (_ : Unit) t => wAt (dC, dI) A (wG (cM cy ad) ad 40 σ9) t) A) (#[.ref (ad 0), .int a1, .int a2, .int a3]) s 0 0 A) (F0 m 0 ls []) from HH s.heap [] ls h hP hD hS hl
  have w278 : ∀ (k82 : S2 → Int32 → Int32 → Int32 → Int32 → Int32 → Int32 → Int32 → Option (Int32 × S2)) (hk82 : ∀ (σ : S2) (x1 : Int32) (x3 : Int32) (x4 : Int32) (x5 : Int32) (x6 : Int32) (x7 : Int32) (x8 : Int32) (H : Heap) (locs : List Loc) (ls : Array Slot), k82 σ x1 x3 x4 x5 x6 x7 x8 = some (r0, σ9) → va_P (dC, dI) vwCl (wG (cM cy ad) ad 40 σ) H → va_D A (wG (cM cy ad) ad 40 σ) → va_S A s.heap H locs → lv_has ls 11 [(0, .ref (ad 0)), (1, .int x1), (3, .int x3), (4, .int x4), (5, .int x5), (6, .int x6), (7, .int x7), (8, .int x8)] → W p l e (headSpec wsX12_names ({ frames := 3, cells := 0, slots := 0, locals := 65 })).room s m (#[.ref (ad 0), .int a1, .int a2, .int a3]) below meth c H locs 0 0 (MQ below (va_Qi (fun (r : Int32) (_ : Unit) => r = r0) (fun (_ : Unit) t => wAt (dC, dI) A (wG (cM cy ad) ad 40 σ9) t) A) (#[.ref (ad 0), .int a1, .int a2, .int a3]) s 0 0 A) (F0 m 82 ls [])) , ∀ (σ : S2) (x1 : Int32) (x3 : Int32) (x4 : Int32) (x6 : Int32) (x7 : Int32) (x8 : Int32) (s0 : Int32) (s1 : Int32) (H : Heap) (locs : List Loc) (ls : Array Slot), fX12_names_278 k82 σ x1 x3 x4 x6 x7 x8 s0 s1 = some (r0, σ9) → va_P (dC, dI) vwCl (wG (cM cy ad) ad 40 σ) H → va_D A (wG (cM cy ad) ad 40 σ) → va_S A s.heap H locs → lv_has ls 11 [(0, .ref (ad 0)), (1, .int x1), (3, .int x3), (4, .int x4), (6, .int x6), (7, .int x7), (8, .int x8)] → W p l e (headSpec wsX12_names ({ frames := 3, cells := 0, slots := 0, locals := 65 })).room s m (#[.ref (ad 0), .int a1, .int a2, .int a3]) below meth c H locs 0 0 (MQ below (va_Qi (fun (r : Int32) (_ : Unit) => r = r0) (fun (_ : Unit) t => wAt (dC, dI) A (wG (cM cy ad) ad 40 σ9) t) A) (#[.ref (ad 0), .int a1, .int a2, .int a3]) s 0 0 A) (F0 m 278 ls [.int s0, .int s1]) := by
    intro k82 hk82 σ x1 x3 x4 x6 x7 x8 s0 s1 H locs ls h hP hD hS hl
    unfold fX12_names_278 at h
    refine lv_iadd hx hb dX12_names_278 ?_
    refine lv_topi (fun v1 ev1 => ?_)
    have h := nmS h ev1
    refine lv_istore (lv' := [(5, .int v1), (0, .ref (ad 0)), (1, .int x1), (3, .int x3), (4, .int x4), (6, .int x6), (7, .int x7), (8, .int x8)]) hx hb dX12_names_279 hl (by decide) rfl (fun ls hl => ?_)
    have hl := lv_sub hl [1, 2, 3, 4, 0, 5, 6, 7] (l' := [(0, .ref (ad 0)), (1, .int x1), (3, .int x3), (4, .int x4), (5, .int v1), (6, .int x6), (7, .int x7), (8, .int x8)]) rfl
    obtain ⟨v2, ev2⟩ : ∃ y : Int32, y = x8 + 1 := ⟨_, rfl⟩
    have h := nmS h ev2
    refine lv_iinc (v := v2) (lv' := [(8, .int v2), (0, .ref (ad 0)), (1, .int x1), (3, .int x3), (4, .int x4), (5, .int v1), (6, .int x6), (7, .int x7)]) hx hb dX12_names_281 hl (k := 7) rfl (by rw [ev2]; rfl) (by decide) rfl (fun ls hl => ?_)
    have hl := lv_sub hl [1, 2, 3, 4, 5, 6, 7, 0] (l' := [(0, .ref (ad 0)), (1, .int x1), (3, .int x3), (4, .int x4), (5, .int v1), (6, .int x6), (7, .int x7), (8, .int v2)]) rfl
    refine lv_goto (tgt := 82) hx hb dX12_names_284 (by decide) ?_
    exact hk82 σ x1 x3 x4 v1 x6 x7 v2 H locs ls h hP hD hS hl
  have w263 : ∀ (k82 : S2 → Int32 → Int32 → Int32 → Int32 → Int32 → Int32 → Int32 → Option (Int32 × S2)) (hk82 : ∀ (σ : S2) (x1 : Int32) (x3 : Int32) (x4 : Int32) (x5 : Int32) (x6 : Int32) (x7 : Int32) (x8 : Int32) (H : Heap) (locs : List Loc) (ls : Array Slot), k82 σ x1 x3 x4 x5 x6 x7 x8 = some (r0, σ9) → va_P (dC, dI) vwCl (wG (cM cy ad) ad 40 σ) H → va_D A (wG (cM cy ad) ad 40 σ) → va_S A s.heap H locs → lv_has ls 11 [(0, .ref (ad 0)), (1, .int x1), (3, .int x3), (4, .int x4), (5, .int x5), (6, .int x6), (7, .int x7), (8, .int x8)] → W p l e (headSpec wsX12_names ({ frames := 3, cells := 0, slots := 0, locals := 65 })).room s m (#[.ref (ad 0), .int a1, .int a2, .int a3]) below meth c H locs 0 0 (MQ below (va_Qi (fun (r : Int32) (_ : Unit) => r = r0) (fun (_ : Unit) t => wAt (dC, dI) A (wG (cM cy ad) ad 40 σ9) t) A) (#[.ref (ad 0), .int a1, .int a2, .int a3]) s 0 0 A) (F0 m 82 ls [])) , ∀ (σ : S2) (x1 : Int32) (x3 : Int32) (x4 : Int32) (x5 : Int32) (x6 : Int32) (x7 : Int32) (x8 : Int32) (x9 : Int32) (H : Heap) (locs : List Loc) (ls : Array Slot), fX12_names_263 k82 σ x1 x3 x4 x5 x6 x7 x8 x9 = some (r0, σ9) → va_P (dC, dI) vwCl (wG (cM cy ad) ad 40 σ) H → va_D A (wG (cM cy ad) ad 40 σ) → va_S A s.heap H locs → lv_has ls 11 [(0, .ref (ad 0)), (1, .int x1), (3, .int x3), (4, .int x4), (5, .int x5), (6, .int x6), (7, .int x7), (8, .int x8), (9, .int x9)] → W p l e (headSpec wsX12_names ({ frames := 3, cells := 0, slots := 0, locals := 65 })).room s m (#[.ref (ad 0), .int a1, .int a2, .int a3]) below meth c H locs 0 0 (MQ below (va_Qi (fun (r : Int32) (_ : Unit) => r = r0) (fun (_ : Unit) t => wAt (dC, dI) A (wG (cM cy ad) ad 40 σ9) t) A) (#[.ref (ad 0), .int a1, .int a2, .int a3]) s 0 0 A) (F0 m 263 ls []) := by
    intro k82 hk82 σ x1 x3 x4 x5 x6 x7 x8 x9 H locs ls h hP hD hS hl
    unfold fX12_names_263 at h
    refine lv_iload hx hb dX12_names_263 (lv_at hl 4 rfl) ?_
    refine lv_iload hx hb dX12_names_265 (lv_at hl 6 rfl) ?_
    refine lv_if_eq (tgt := 277) hx hb dX12_names_267 (by decide) (fun hcd => ?_) (fun hcd => ?_)
    · have h := cdP hcd h
      refine lv_iconst (v := 0) hx hb dX12_names_277 (by decide) ?_
      exact w278 _ hk82 σ x1 x3 x4 x6 x7 x8 0 x5 H locs ls h hP hD hS (lv_sub hl [0, 1, 2, 3, 5, 6, 7] rfl)
    · have h := cdN hcd h
      refine lv_iconst (v := 1) hx hb dX12_names_270 (by decide) ?_
      refine lv_iload hx hb dX12_names_271 (lv_at hl 8 rfl) ?_
      refine lv_iadd hx hb dX12_names_273 ?_
      refine lv_goto (tgt := 278) hx hb dX12_names_274 (by decide) ?_
      exact w278 _ hk82 σ x1 x3 x4 x6 x7 x8 (1 + x9) x5 H locs ls h hP hD hS (lv_sub hl [0, 1, 2, 3, 5, 6, 7] rfl)
  have w242 : ∀ (k82 : S2 → Int32 → Int32 → Int32 → Int32 → Int32 → Int32 → Int32 → Option (Int32 × S2)) (hk82 : ∀ (σ : S2) (x1 : Int32) (x3 : Int32) (x4 : Int32) (x5 : Int32) (x6 : Int32) (x7 : Int32) (x8 : Int32) (H : Heap) (locs : List Loc) (ls : Array Slot), k82 σ x1 x3 x4 x5 x6 x7 x8 = some (r0, σ9) → va_P (dC, dI) vwCl (wG (cM cy ad) ad 40 σ) H → va_D A (wG (cM cy ad) ad 40 σ) → va_S A s.heap H locs → lv_has ls 11 [(0, .ref (ad 0)), (1, .int x1), (3, .int x3), (4, .int x4), (5, .int x5), (6, .int x6), (7, .int x7), (8, .int x8)] → W p l e (headSpec wsX12_names ({ frames := 3, cells := 0, slots := 0, locals := 65 })).room s m (#[.ref (ad 0), .int a1, .int a2, .int a3]) below meth c H locs 0 0 (MQ below (va_Qi (fun (r : Int32) (_ : Unit) => r = r0) (fun (_ : Unit) t => wAt (dC, dI) A (wG (cM cy ad) ad 40 σ9) t) A) (#[.ref (ad 0), .int a1, .int a2, .int a3]) s 0 0 A) (F0 m 82 ls [])) , ∀ (σ : S2) (x1 : Int32) (x3 : Int32) (x4 : Int32) (x5 : Int32) (x6 : Int32) (x8 : Int32) (x9 : Int32) (x10 : Int32) (s0 : Int32) (H : Heap) (locs : List Loc) (ls : Array Slot), fX12_names_242 k82 σ x1 x3 x4 x5 x6 x8 x9 x10 s0 = some (r0, σ9) → va_P (dC, dI) vwCl (wG (cM cy ad) ad 40 σ) H → va_D A (wG (cM cy ad) ad 40 σ) → va_S A s.heap H locs → lv_has ls 11 [(0, .ref (ad 0)), (1, .int x1), (3, .int x3), (4, .int x4), (5, .int x5), (6, .int x6), (8, .int x8), (9, .int x9), (10, .int x10)] → W p l e (headSpec wsX12_names ({ frames := 3, cells := 0, slots := 0, locals := 65 })).room s m (#[.ref (ad 0), .int a1, .int a2, .int a3]) below meth c H locs 0 0 (MQ below (va_Qi (fun (r : Int32) (_ : Unit) => r = r0) (fun (_ : Unit) t => wAt (dC, dI) A (wG (cM cy ad) ad 40 σ9) t) A) (#[.ref (ad 0), .int a1, .int a2, .int a3]) s 0 0 A) (F0 m 242 ls [.int s0]) := by
    intro k82 hk82 σ x1 x3 x4 x5 x6 x8 x9 x10 s0 H locs ls h hP hD hS hl
    unfold fX12_names_242 at h
    refine lv_istore (lv' := [(7, .int s0), (0, .ref (ad 0)), (1, .int x1), (3, .int x3), (4, .int x4), (5, .int x5), (6, .int x6), (8, .int x8), (9, .int x9), (10, .int x10)]) hx hb dX12_names_242 hl (by decide) rfl (fun ls hl => ?_)
    have hl := lv_sub hl [1, 2, 3, 4, 5, 6, 0, 7, 8, 9] (l' := [(0, .ref (ad 0)), (1, .int x1), (3, .int x3), (4, .int x4), (5, .int x5), (6, .int x6), (7, .int s0), (8, .int x8), (9, .int x9), (10, .int x10)]) rfl
    refine lv_iload hx hb dX12_names_244 (lv_at hl 6 rfl) ?_
    refine lv_if_eq (tgt := 263) hx hb dX12_names_246 (by decide) (fun hcd => ?_) (fun hcd => ?_)
    · have h := cdP hcd h
      exact w263 _ hk82 σ x1 x3 x4 x5 x6 s0 x8 x9 H locs ls h hP hD hS (lv_sub hl [0, 1, 2, 3, 4, 5, 6, 7, 8] rfl)
    · have h := cdN hcd h
      refine lv_iload hx hb dX12_names_249 (lv_at hl 9 rfl) ?_
      refine lv_if_eq (tgt := 263) hx hb dX12_names_251 (by decide) (fun hcd => ?_) (fun hcd => ?_)
      · have h := cdP hcd h
        exact w263 _ hk82 σ x1 x3 x4 x5 x6 s0 x8 x9 H locs ls h hP hD hS (lv_sub hl [0, 1, 2, 3, 4, 5, 6, 7, 8] rfl)
      · have h := cdN hcd h
        refine lv_aload_n hx hb dX12_names_254 rfl (lv_at hl 0 rfl) ?_
        refine lv_iload hx hb dX12_names_255 (lv_at hl 8 rfl) ?_
        obtain ⟨r3, σ4, hf5, h⟩ := bsS h
        refine ux_callv (va_runV (As := [.int x9]) (rest := []) ⟨hx, hb, hml, hown, hts⟩ (tX12_comesName l dC dI cy ad σ x9 H.size r3 σ4 hf5) (cwV 1 hts gX12_names_X12_comesName rfl rfl rfl (by decide +kernel) ⟨Nat.le_of_ble_eq_true rfl, Nat.le_of_ble_eq_true rfl⟩) (wp_V hK hN hP hD (va_recv hK hP (ci := 12) (q0 := 0) rfl (wG_of (Nat.le_of_ble_eq_true rfl) rfl))) rfl rfl hl.1 rfl (lv_room (Nat.le_of_ble_eq_true rfl)) dX12_names_257 ⟨Nat.le_of_ble_eq_true rfl, Nat.le_of_ble_eq_true rfl⟩) hD hS hA (fun H locs hP hD hS => ?_)
        obtain ⟨v6, ev6⟩ : ∃ y : Int32, y = x6 + 1 := ⟨_, rfl⟩
        have h := nmS h ev6
        refine lv_iinc (v := v6) (lv' := [(6, .int v6), (0, .ref (ad 0)), (1, .int x1), (3, .int x3), (4, .int x4), (5, .int x5), (7, .int s0), (8, .int x8), (9, .int x9), (10, .int x10)]) hx hb dX12_names_260 hl (k := 5) rfl (by rw [ev6]; rfl) (by decide) rfl (fun ls hl => ?_)
        have hl := lv_sub hl [1, 2, 3, 4, 5, 0, 6, 7, 8, 9] (l' := [(0, .ref (ad 0)), (1, .int x1), (3, .int x3), (4, .int x4), (5, .int x5), (6, .int v6), (7, .int s0), (8, .int x8), (9, .int x9), (10, .int x10)]) rfl
        exact w263 _ hk82 σ4 x1 x3 x4 x5 v6 s0 x8 x9 H locs ls h hP hD hS (lv_sub hl [0, 1, 2, 3, 4, 5, 6, 7, 8] rfl)
  have w241 : ∀ (k82 : S2 → Int32 → Int32 → Int32 → Int32 → Int32 → Int32 → Int32 → Option (Int32 × S2)) (hk82 : ∀ (σ : S2) (x1 : Int32) (x3 : Int32) (x4 : Int32) (x5 : Int32) (x6 : Int32) (x7 : Int32) (x8 : Int32) (H : Heap) (locs : List Loc) (ls : Array Slot), k82 σ x1 x3 x4 x5 x6 x7 x8 = some (r0, σ9) → va_P (dC, dI) vwCl (wG (cM cy ad) ad 40 σ) H → va_D A (wG (cM cy ad) ad 40 σ) → va_S A s.heap H locs → lv_has ls 11 [(0, .ref (ad 0)), (1, .int x1), (3, .int x3), (4, .int x4), (5, .int x5), (6, .int x6), (7, .int x7), (8, .int x8)] → W p l e (headSpec wsX12_names ({ frames := 3, cells := 0, slots := 0, locals := 65 })).room s m (#[.ref (ad 0), .int a1, .int a2, .int a3]) below meth c H locs 0 0 (MQ below (va_Qi (fun (r : Int32) (_ : Unit) => r = r0) (fun (_ : Unit) t => wAt (dC, dI) A (wG (cM cy ad) ad 40 σ9) t) A) (#[.ref (ad 0), .int a1, .int a2, .int a3]) s 0 0 A) (F0 m 82 ls [])) , ∀ (σ : S2) (x1 : Int32) (x3 : Int32) (x4 : Int32) (x5 : Int32) (x6 : Int32) (x8 : Int32) (x9 : Int32) (x10 : Int32) (H : Heap) (locs : List Loc) (ls : Array Slot), fX12_names_241 k82 σ x1 x3 x4 x5 x6 x8 x9 x10 = some (r0, σ9) → va_P (dC, dI) vwCl (wG (cM cy ad) ad 40 σ) H → va_D A (wG (cM cy ad) ad 40 σ) → va_S A s.heap H locs → lv_has ls 11 [(0, .ref (ad 0)), (1, .int x1), (3, .int x3), (4, .int x4), (5, .int x5), (6, .int x6), (8, .int x8), (9, .int x9), (10, .int x10)] → W p l e (headSpec wsX12_names ({ frames := 3, cells := 0, slots := 0, locals := 65 })).room s m (#[.ref (ad 0), .int a1, .int a2, .int a3]) below meth c H locs 0 0 (MQ below (va_Qi (fun (r : Int32) (_ : Unit) => r = r0) (fun (_ : Unit) t => wAt (dC, dI) A (wG (cM cy ad) ad 40 σ9) t) A) (#[.ref (ad 0), .int a1, .int a2, .int a3]) s 0 0 A) (F0 m 241 ls []) := by
    intro k82 hk82 σ x1 x3 x4 x5 x6 x8 x9 x10 H locs ls h hP hD hS hl
    unfold fX12_names_241 at h
    refine lv_iconst (v := 0) hx hb dX12_names_241 (by decide) ?_
    exact w242 _ hk82 σ x1 x3 x4 x5 x6 x8 x9 x10 0 H locs ls h hP hD hS hl
  have w237 : ∀ (k82 : S2 → Int32 → Int32 → Int32 → Int32 → Int32 → Int32 → Int32 → Option (Int32 × S2)) (hk82 : ∀ (σ : S2) (x1 : Int32) (x3 : Int32) (x4 : Int32) (x5 : Int32) (x6 : Int32) (x7 : Int32) (x8 : Int32) (H : Heap) (locs : List Loc) (ls : Array Slot), k82 σ x1 x3 x4 x5 x6 x7 x8 = some (r0, σ9) → va_P (dC, dI) vwCl (wG (cM cy ad) ad 40 σ) H → va_D A (wG (cM cy ad) ad 40 σ) → va_S A s.heap H locs → lv_has ls 11 [(0, .ref (ad 0)), (1, .int x1), (3, .int x3), (4, .int x4), (5, .int x5), (6, .int x6), (7, .int x7), (8, .int x8)] → W p l e (headSpec wsX12_names ({ frames := 3, cells := 0, slots := 0, locals := 65 })).room s m (#[.ref (ad 0), .int a1, .int a2, .int a3]) below meth c H locs 0 0 (MQ below (va_Qi (fun (r : Int32) (_ : Unit) => r = r0) (fun (_ : Unit) t => wAt (dC, dI) A (wG (cM cy ad) ad 40 σ9) t) A) (#[.ref (ad 0), .int a1, .int a2, .int a3]) s 0 0 A) (F0 m 82 ls [])) , ∀ (σ : S2) (x1 : Int32) (x3 : Int32) (x4 : Int32) (x5 : Int32) (x6 : Int32) (x8 : Int32) (x9 : Int32) (x10 : Int32) (H : Heap) (locs : List Loc) (ls : Array Slot), fX12_names_237 k82 σ x1 x3 x4 x5 x6 x8 x9 x10 = some (r0, σ9) → va_P (dC, dI) vwCl (wG (cM cy ad) ad 40 σ) H → va_D A (wG (cM cy ad) ad 40 σ) → va_S A s.heap H locs → lv_has ls 11 [(0, .ref (ad 0)), (1, .int x1), (3, .int x3), (4, .int x4), (5, .int x5), (6, .int x6), (8, .int x8), (9, .int x9), (10, .int x10)] → W p l e (headSpec wsX12_names ({ frames := 3, cells := 0, slots := 0, locals := 65 })).room s m (#[.ref (ad 0), .int a1, .int a2, .int a3]) below meth c H locs 0 0 (MQ below (va_Qi (fun (r : Int32) (_ : Unit) => r = r0) (fun (_ : Unit) t => wAt (dC, dI) A (wG (cM cy ad) ad 40 σ9) t) A) (#[.ref (ad 0), .int a1, .int a2, .int a3]) s 0 0 A) (F0 m 237 ls []) := by
    intro k82 hk82 σ x1 x3 x4 x5 x6 x8 x9 x10 H locs ls h hP hD hS hl
    unfold fX12_names_237 at h
    refine lv_iconst (v := 1) hx hb dX12_names_237 (by decide) ?_
    refine lv_goto (tgt := 242) hx hb dX12_names_238 (by decide) ?_
    exact w242 _ hk82 σ x1 x3 x4 x5 x6 x8 x9 x10 1 H locs ls h hP hD hS hl
  have w216 : ∀ (k82 : S2 → Int32 → Int32 → Int32 → Int32 → Int32 → Int32 → Int32 → Option (Int32 × S2)) (hk82 : ∀ (σ : S2) (x1 : Int32) (x3 : Int32) (x4 : Int32) (x5 : Int32) (x6 : Int32) (x7 : Int32) (x8 : Int32) (H : Heap) (locs : List Loc) (ls : Array Slot), k82 σ x1 x3 x4 x5 x6 x7 x8 = some (r0, σ9) → va_P (dC, dI) vwCl (wG (cM cy ad) ad 40 σ) H → va_D A (wG (cM cy ad) ad 40 σ) → va_S A s.heap H locs → lv_has ls 11 [(0, .ref (ad 0)), (1, .int x1), (3, .int x3), (4, .int x4), (5, .int x5), (6, .int x6), (7, .int x7), (8, .int x8)] → W p l e (headSpec wsX12_names ({ frames := 3, cells := 0, slots := 0, locals := 65 })).room s m (#[.ref (ad 0), .int a1, .int a2, .int a3]) below meth c H locs 0 0 (MQ below (va_Qi (fun (r : Int32) (_ : Unit) => r = r0) (fun (_ : Unit) t => wAt (dC, dI) A (wG (cM cy ad) ad 40 σ9) t) A) (#[.ref (ad 0), .int a1, .int a2, .int a3]) s 0 0 A) (F0 m 82 ls [])) , ∀ (σ : S2) (x1 : Int32) (x3 : Int32) (x4 : Int32) (x5 : Int32) (x6 : Int32) (x7 : Int32) (x8 : Int32) (x9 : Int32) (s0 : Int32) (H : Heap) (locs : List Loc) (ls : Array Slot), fX12_names_216 k82 σ x1 x3 x4 x5 x6 x7 x8 x9 s0 = some (r0, σ9) → va_P (dC, dI) vwCl (wG (cM cy ad) ad 40 σ) H → va_D A (wG (cM cy ad) ad 40 σ) → va_S A s.heap H locs → lv_has ls 11 [(0, .ref (ad 0)), (1, .int x1), (3, .int x3), (4, .int x4), (5, .int x5), (6, .int x6), (7, .int x7), (8, .int x8), (9, .int x9)] → W p l e (headSpec wsX12_names ({ frames := 3, cells := 0, slots := 0, locals := 65 })).room s m (#[.ref (ad 0), .int a1, .int a2, .int a3]) below meth c H locs 0 0 (MQ below (va_Qi (fun (r : Int32) (_ : Unit) => r = r0) (fun (_ : Unit) t => wAt (dC, dI) A (wG (cM cy ad) ad 40 σ9) t) A) (#[.ref (ad 0), .int a1, .int a2, .int a3]) s 0 0 A) (F0 m 216 ls [.int s0]) := by
    intro k82 hk82 σ x1 x3 x4 x5 x6 x7 x8 x9 s0 H locs ls h hP hD hS hl
    unfold fX12_names_216 at h
    refine lv_istore (lv' := [(10, .int s0), (0, .ref (ad 0)), (1, .int x1), (3, .int x3), (4, .int x4), (5, .int x5), (6, .int x6), (7, .int x7), (8, .int x8), (9, .int x9)]) hx hb dX12_names_216 hl (by decide) rfl (fun ls hl => ?_)
    have hl := lv_sub hl [1, 2, 3, 4, 5, 6, 7, 8, 9, 0] (l' := [(0, .ref (ad 0)), (1, .int x1), (3, .int x3), (4, .int x4), (5, .int x5), (6, .int x6), (7, .int x7), (8, .int x8), (9, .int x9), (10, .int s0)]) rfl
    refine lv_iload hx hb dX12_names_218 (lv_at hl 6 rfl) ?_
    refine lv_if_eq (tgt := 241) hx hb dX12_names_220 (by decide) (fun hcd => ?_) (fun hcd => ?_)
    · have h := cdP hcd h
      exact w241 _ hk82 σ x1 x3 x4 x5 x6 x8 x9 s0 H locs ls h hP hD hS (lv_sub hl [0, 1, 2, 3, 4, 5, 7, 8, 9] rfl)
    · have h := cdN hcd h
      refine lv_iload hx hb dX12_names_223 (lv_at hl 9 rfl) ?_
      refine lv_if_eq (tgt := 237) hx hb dX12_names_225 (by decide) (fun hcd => ?_) (fun hcd => ?_)
      · have h := cdP hcd h
        exact w237 _ hk82 σ x1 x3 x4 x5 x6 x8 x9 s0 H locs ls h hP hD hS (lv_sub hl [0, 1, 2, 3, 4, 5, 7, 8, 9] rfl)
      · have h := cdN hcd h
        refine lv_aload_n hx hb dX12_names_228 rfl (lv_at hl 0 rfl) ?_
        refine ux_get (D := (dC, dI)) (ci := 12) (v := .int (σ.1 0 0)) (C := RX12) (T := TX12) (M := 59) (fs := (oM ad (σ.1 0))) hx hb hts (fun _ h9 => List.mem_cons_of_mem _ (List.mem_append_right _ h9)) hown hK hP 0 (Nat.le_of_ble_eq_true rfl) rfl rfl 0 (by decide) (hts (.fieldLink RX12 133 "SeatsRoundModel" "names" "I") (List.mem_of_getElem? (i := 6) rfl)) (fun _ h9 => h9) rfl dX12_names_229 ?_
        refine lv_bipush (v := 40) hx hb dX12_names_232 (by decide) ?_
        refine lv_icmp_eq (tgt := 241) hx hb dX12_names_234 (by decide) (fun hcd => ?_) (fun hcd => ?_)
        · have h := cdP hcd h
          exact w241 _ hk82 σ x1 x3 x4 x5 x6 x8 x9 s0 H locs ls h hP hD hS (lv_sub hl [0, 1, 2, 3, 4, 5, 7, 8, 9] rfl)
        · have h := cdN hcd h
          exact w237 _ hk82 σ x1 x3 x4 x5 x6 x8 x9 s0 H locs ls h hP hD hS (lv_sub hl [0, 1, 2, 3, 4, 5, 7, 8, 9] rfl)
  have w215 : ∀ (k82 : S2 → Int32 → Int32 → Int32 → Int32 → Int32 → Int32 → Int32 → Option (Int32 × S2)) (hk82 : ∀ (σ : S2) (x1 : Int32) (x3 : Int32) (x4 : Int32) (x5 : Int32) (x6 : Int32) (x7 : Int32) (x8 : Int32) (H : Heap) (locs : List Loc) (ls : Array Slot), k82 σ x1 x3 x4 x5 x6 x7 x8 = some (r0, σ9) → va_P (dC, dI) vwCl (wG (cM cy ad) ad 40 σ) H → va_D A (wG (cM cy ad) ad 40 σ) → va_S A s.heap H locs → lv_has ls 11 [(0, .ref (ad 0)), (1, .int x1), (3, .int x3), (4, .int x4), (5, .int x5), (6, .int x6), (7, .int x7), (8, .int x8)] → W p l e (headSpec wsX12_names ({ frames := 3, cells := 0, slots := 0, locals := 65 })).room s m (#[.ref (ad 0), .int a1, .int a2, .int a3]) below meth c H locs 0 0 (MQ below (va_Qi (fun (r : Int32) (_ : Unit) => r = r0) (fun (_ : Unit) t => wAt (dC, dI) A (wG (cM cy ad) ad 40 σ9) t) A) (#[.ref (ad 0), .int a1, .int a2, .int a3]) s 0 0 A) (F0 m 82 ls [])) , ∀ (σ : S2) (x1 : Int32) (x3 : Int32) (x4 : Int32) (x5 : Int32) (x6 : Int32) (x7 : Int32) (x8 : Int32) (x9 : Int32) (H : Heap) (locs : List Loc) (ls : Array Slot), fX12_names_215 k82 σ x1 x3 x4 x5 x6 x7 x8 x9 = some (r0, σ9) → va_P (dC, dI) vwCl (wG (cM cy ad) ad 40 σ) H → va_D A (wG (cM cy ad) ad 40 σ) → va_S A s.heap H locs → lv_has ls 11 [(0, .ref (ad 0)), (1, .int x1), (3, .int x3), (4, .int x4), (5, .int x5), (6, .int x6), (7, .int x7), (8, .int x8), (9, .int x9)] → W p l e (headSpec wsX12_names ({ frames := 3, cells := 0, slots := 0, locals := 65 })).room s m (#[.ref (ad 0), .int a1, .int a2, .int a3]) below meth c H locs 0 0 (MQ below (va_Qi (fun (r : Int32) (_ : Unit) => r = r0) (fun (_ : Unit) t => wAt (dC, dI) A (wG (cM cy ad) ad 40 σ9) t) A) (#[.ref (ad 0), .int a1, .int a2, .int a3]) s 0 0 A) (F0 m 215 ls []) := by
    intro k82 hk82 σ x1 x3 x4 x5 x6 x7 x8 x9 H locs ls h hP hD hS hl
    unfold fX12_names_215 at h
    refine lv_iconst (v := 0) hx hb dX12_names_215 (by decide) ?_
    exact w216 _ hk82 σ x1 x3 x4 x5 x6 x7 x8 x9 0 H locs ls h hP hD hS hl
  have w197 : ∀ (k82 : S2 → Int32 → Int32 → Int32 → Int32 → Int32 → Int32 → Int32 → Option (Int32 × S2)) (hk82 : ∀ (σ : S2) (x1 : Int32) (x3 : Int32) (x4 : Int32) (x5 : Int32) (x6 : Int32) (x7 : Int32) (x8 : Int32) (H : Heap) (locs : List Loc) (ls : Array Slot), k82 σ x1 x3 x4 x5 x6 x7 x8 = some (r0, σ9) → va_P (dC, dI) vwCl (wG (cM cy ad) ad 40 σ) H → va_D A (wG (cM cy ad) ad 40 σ) → va_S A s.heap H locs → lv_has ls 11 [(0, .ref (ad 0)), (1, .int x1), (3, .int x3), (4, .int x4), (5, .int x5), (6, .int x6), (7, .int x7), (8, .int x8)] → W p l e (headSpec wsX12_names ({ frames := 3, cells := 0, slots := 0, locals := 65 })).room s m (#[.ref (ad 0), .int a1, .int a2, .int a3]) below meth c H locs 0 0 (MQ below (va_Qi (fun (r : Int32) (_ : Unit) => r = r0) (fun (_ : Unit) t => wAt (dC, dI) A (wG (cM cy ad) ad 40 σ9) t) A) (#[.ref (ad 0), .int a1, .int a2, .int a3]) s 0 0 A) (F0 m 82 ls [])) , ∀ (σ : S2) (x1 : Int32) (x3 : Int32) (x4 : Int32) (x5 : Int32) (x6 : Int32) (x7 : Int32) (x8 : Int32) (x9 : Int32) (H : Heap) (locs : List Loc) (ls : Array Slot), fX12_names_197 k82 σ x1 x3 x4 x5 x6 x7 x8 x9 = some (r0, σ9) → va_P (dC, dI) vwCl (wG (cM cy ad) ad 40 σ) H → va_D A (wG (cM cy ad) ad 40 σ) → va_S A s.heap H locs → lv_has ls 11 [(0, .ref (ad 0)), (1, .int x1), (3, .int x3), (4, .int x4), (5, .int x5), (6, .int x6), (7, .int x7), (8, .int x8), (9, .int x9)] → W p l e (headSpec wsX12_names ({ frames := 3, cells := 0, slots := 0, locals := 65 })).room s m (#[.ref (ad 0), .int a1, .int a2, .int a3]) below meth c H locs 0 0 (MQ below (va_Qi (fun (r : Int32) (_ : Unit) => r = r0) (fun (_ : Unit) t => wAt (dC, dI) A (wG (cM cy ad) ad 40 σ9) t) A) (#[.ref (ad 0), .int a1, .int a2, .int a3]) s 0 0 A) (F0 m 197 ls []) := by
    intro k82 hk82 σ x1 x3 x4 x5 x6 x7 x8 x9 H locs ls h hP hD hS hl
    unfold fX12_names_197 at h
    refine lv_iload hx hb dX12_names_197 (lv_at hl 6 rfl) ?_
    refine lv_if_eq (tgt := 215) hx hb dX12_names_199 (by decide) (fun hcd => ?_) (fun hcd => ?_)
    · have h := cdP hcd h
      exact w215 _ hk82 σ x1 x3 x4 x5 x6 x7 x8 x9 H locs ls h hP hD hS hl
    · have h := cdN hcd h
      refine lv_aload_n hx hb dX12_names_202 rfl (lv_at hl 0 rfl) ?_
      refine lv_iload hx hb dX12_names_203 (lv_at hl 8 rfl) ?_
      obtain ⟨r7, hf8, h⟩ := biS h
      refine ux_calli (va_runV (As := [.int x9]) (rest := []) ⟨hx, hb, hml, hown, hts⟩ (tX12_found l dC dI cy ad σ x9 H.size r7 hf8) (cwV 1 hts gX12_names_X12_found rfl rfl rfl (by decide +kernel) ⟨Nat.le_of_ble_eq_true rfl, Nat.le_of_ble_eq_true rfl⟩) (wp_V hK hN hP hD (va_recv hK hP (ci := 12) (q0 := 0) rfl (wG_of (Nat.le_of_ble_eq_true rfl) rfl))) rfl rfl hl.1 rfl (lv_room (Nat.le_of_ble_eq_true rfl)) dX12_names_205 ⟨Nat.le_of_ble_eq_true rfl, Nat.le_of_ble_eq_true rfl⟩) hD hS hA (fun H locs hP hD hS => ?_)
      refine lv_if_ge (tgt := 215) hx hb dX12_names_208 (by decide) (fun hcd => ?_) (fun hcd => ?_)
      · have h := cdP hcd h
        exact w215 _ hk82 σ x1 x3 x4 x5 x6 x7 x8 x9 H locs ls h hP hD hS hl
      · have h := cdN hcd h
        refine lv_iconst (v := 1) hx hb dX12_names_211 (by decide) ?_
        refine lv_goto (tgt := 216) hx hb dX12_names_212 (by decide) ?_
        exact w216 _ hk82 σ x1 x3 x4 x5 x6 x7 x8 x9 1 H locs ls h hP hD hS hl
  have w150 : ∀ (k82 : S2 → Int32 → Int32 → Int32 → Int32 → Int32 → Int32 → Int32 → Option (Int32 × S2)) (hk82 : ∀ (σ : S2) (x1 : Int32) (x3 : Int32) (x4 : Int32) (x5 : Int32) (x6 : Int32) (x7 : Int32) (x8 : Int32) (H : Heap) (locs : List Loc) (ls : Array Slot), k82 σ x1 x3 x4 x5 x6 x7 x8 = some (r0, σ9) → va_P (dC, dI) vwCl (wG (cM cy ad) ad 40 σ) H → va_D A (wG (cM cy ad) ad 40 σ) → va_S A s.heap H locs → lv_has ls 11 [(0, .ref (ad 0)), (1, .int x1), (3, .int x3), (4, .int x4), (5, .int x5), (6, .int x6), (7, .int x7), (8, .int x8)] → W p l e (headSpec wsX12_names ({ frames := 3, cells := 0, slots := 0, locals := 65 })).room s m (#[.ref (ad 0), .int a1, .int a2, .int a3]) below meth c H locs 0 0 (MQ below (va_Qi (fun (r : Int32) (_ : Unit) => r = r0) (fun (_ : Unit) t => wAt (dC, dI) A (wG (cM cy ad) ad 40 σ9) t) A) (#[.ref (ad 0), .int a1, .int a2, .int a3]) s 0 0 A) (F0 m 82 ls [])) (n : Nat), ∀ (σ : S2) (x1 : Int32) (x3 : Int32) (x4 : Int32) (x5 : Int32) (x6 : Int32) (x7 : Int32) (x8 : Int32) (x9 : Int32) (x10 : Int32) (H : Heap) (locs : List Loc) (ls : Array Slot), fX12_names_150 k82 n σ x1 x3 x4 x5 x6 x7 x8 x9 x10 = some (r0, σ9) → va_P (dC, dI) vwCl (wG (cM cy ad) ad 40 σ) H → va_D A (wG (cM cy ad) ad 40 σ) → va_S A s.heap H locs → lv_has ls 11 [(0, .ref (ad 0)), (1, .int x1), (3, .int x3), (4, .int x4), (5, .int x5), (6, .int x6), (7, .int x7), (8, .int x8), (9, .int x9), (10, .int x10)] → W p l e (headSpec wsX12_names ({ frames := 3, cells := 0, slots := 0, locals := 65 })).room s m (#[.ref (ad 0), .int a1, .int a2, .int a3]) below meth c H locs 0 0 (MQ below (va_Qi (fun (r : Int32) (_ : Unit) => r = r0) (fun (_ : Unit) t => wAt (dC, dI) A (wG (cM cy ad) ad 40 σ9) t) A) (#[.ref (ad 0), .int a1, .int a2, .int a3]) s 0 0 A) (F0 m 150 ls []) := by
    intro k82 hk82 n
    induction n with
    | zero => intro σ x1 x3 x4 x5 x6 x7 x8 x9 x10 H locs ls h; cases h
    | succ n ih =>
    intro σ x1 x3 x4 x5 x6 x7 x8 x9 x10 H locs ls h hP hD hS hl
    unfold fX12_names_150 at h
    refine lv_iload hx hb dX12_names_150 (lv_at hl 9 rfl) ?_
    refine lv_iload hx hb dX12_names_152 (lv_at hl 8 rfl) ?_
    refine lv_icmp_ge (tgt := 197) hx hb dX12_names_154 (by decide) (fun hcd => ?_) (fun hcd => ?_)
    · have h := cdP hcd h
      exact w197 _ hk82 σ x1 x3 x4 x5 x6 x7 x8 x9 H locs ls h hP hD hS (lv_sub hl [0, 1, 2, 3, 4, 5, 6, 7, 8] rfl)
    · have h := cdN hcd h
      refine lv_iload hx hb dX12_names_157 (lv_at hl 6 rfl) ?_
      refine lv_if_eq (tgt := 197) hx hb dX12_names_159 (by decide) (fun hcd => ?_) (fun hcd => ?_)
      · have h := cdP hcd h
        exact w197 _ hk82 σ x1 x3 x4 x5 x6 x7 x8 x9 H locs ls h hP hD hS (lv_sub hl [0, 1, 2, 3, 4, 5, 6, 7, 8] rfl)
      · have h := cdN hcd h
        refine lv_aload_n hx hb dX12_names_162 rfl (lv_at hl 0 rfl) ?_
        refine ux_get (D := (dC, dI)) (ci := 12) (v := .ref (ad 34)) (C := RX12) (T := TX12) (M := 59) (fs := (oM ad (σ.1 0))) hx hb hts (fun _ h9 => List.mem_cons_of_mem _ (List.mem_append_right _ h9)) hown hK hP 0 (Nat.le_of_ble_eq_true rfl) rfl rfl 43 (by decide) (hts (.fieldLink RX12 115 "SeatsRoundModel" "told" "[I") (List.mem_of_getElem? (i := 5) rfl)) (fun _ h9 => h9) rfl dX12_names_163 ?_
        refine lv_iload hx hb dX12_names_166 (lv_at hl 9 rfl) ?_
        refine lv_aload_n hx hb dX12_names_168 rfl (lv_at hl 0 rfl) ?_
        refine ux_get (D := (dC, dI)) (ci := 12) (v := .ref (ad 33)) (C := RX12) (T := TX12) (M := 59) (fs := (oM ad (σ.1 0))) hx hb hts (fun _ h9 => List.mem_cons_of_mem _ (List.mem_append_right _ h9)) hown hK hP 0 (Nat.le_of_ble_eq_true rfl) rfl rfl 42 (by decide) (hts (.fieldLink RX12 111 "SeatsRoundModel" "elements" "[J") (List.mem_of_getElem? (i := 4) rfl)) (fun _ h9 => h9) rfl dX12_names_169 ?_
        refine lv_bipush (v := 60) hx hb dX12_names_172 (by decide) ?_
        refine lv_iload_n hx hb dX12_names_174 rfl (lv_at hl 1 rfl) ?_
        refine lv_imul hx hb dX12_names_175 ?_
        change W _ _ _ _ _ _ _ _ _ _ _ _ _ _ _ (F0 m 176 ls [.int (60 * x1), .ref (ad 33), .int x10, .ref (ad 34)])
        refine lv_iload hx hb dX12_names_176 (lv_at hl 4 rfl) ?_
        refine lv_iadd hx hb dX12_names_178 ?_
        refine lv_iconst (v := 1) hx hb dX12_names_179 (by decide) ?_
        refine lv_iadd hx hb dX12_names_180 ?_
        refine lv_iload hx hb dX12_names_181 (lv_at hl 9 rfl) ?_
        refine lv_iadd hx hb dX12_names_183 ?_
        refine ux_lald hx hb hK hP 33 4 (Nat.le_of_ble_eq_true rfl) (cM_33 _ _ _ _) rfl h dX12_names_184 (fun v9 h => ?_)
        refine lv_l2i hx hb dX12_names_185 rfl ?_
        refine lv_sipush (v := 255) hx hb dX12_names_186 (by decide) ?_
        refine lv_iand hx hb dX12_names_189 ?_
        refine ux_iast hx hb hK hP hD hS 34 0 (Nat.le_of_ble_eq_true rfl) (fun _ => (cM_34 _ _ _ _)) rfl h dX12_names_190 (fun σ10 H locs h hP hD hS => ?_)
        obtain ⟨v11, ev11⟩ : ∃ y : Int32, y = x10 + 1 := ⟨_, rfl⟩
        have h := nmS h ev11
        refine lv_iinc (v := v11) (lv' := [(10, .int v11), (0, .ref (ad 0)), (1, .int x1), (3, .int x3), (4, .int x4), (5, .int x5), (6, .int x6), (7, .int x7), (8, .int x8), (9, .int x9)]) hx hb dX12_names_191 hl (k := 9) rfl (by rw [ev11]; rfl) (by decide) rfl (fun ls hl => ?_)
        have hl := lv_sub hl [1, 2, 3, 4, 5, 6, 7, 8, 9, 0] (l' := [(0, .ref (ad 0)), (1, .int x1), (3, .int x3), (4, .int x4), (5, .int x5), (6, .int x6), (7, .int x7), (8, .int x8), (9, .int x9), (10, .int v11)]) rfl
        refine lv_goto (tgt := 150) hx hb dX12_names_194 (by decide) ?_
        exact ih σ10 x1 x3 x4 x5 x6 x7 x8 x9 v11 H locs ls h hP hD hS hl
  have w145 : ∀ (k82 : S2 → Int32 → Int32 → Int32 → Int32 → Int32 → Int32 → Int32 → Option (Int32 × S2)) (hk82 : ∀ (σ : S2) (x1 : Int32) (x3 : Int32) (x4 : Int32) (x5 : Int32) (x6 : Int32) (x7 : Int32) (x8 : Int32) (H : Heap) (locs : List Loc) (ls : Array Slot), k82 σ x1 x3 x4 x5 x6 x7 x8 = some (r0, σ9) → va_P (dC, dI) vwCl (wG (cM cy ad) ad 40 σ) H → va_D A (wG (cM cy ad) ad 40 σ) → va_S A s.heap H locs → lv_has ls 11 [(0, .ref (ad 0)), (1, .int x1), (3, .int x3), (4, .int x4), (5, .int x5), (6, .int x6), (7, .int x7), (8, .int x8)] → W p l e (headSpec wsX12_names ({ frames := 3, cells := 0, slots := 0, locals := 65 })).room s m (#[.ref (ad 0), .int a1, .int a2, .int a3]) below meth c H locs 0 0 (MQ below (va_Qi (fun (r : Int32) (_ : Unit) => r = r0) (fun (_ : Unit) t => wAt (dC, dI) A (wG (cM cy ad) ad 40 σ9) t) A) (#[.ref (ad 0), .int a1, .int a2, .int a3]) s 0 0 A) (F0 m 82 ls [])) , ∀ (σ : S2) (x1 : Int32) (x3 : Int32) (x4 : Int32) (x5 : Int32) (x6 : Int32) (x8 : Int32) (x9 : Int32) (s0 : Int32) (H : Heap) (locs : List Loc) (ls : Array Slot), fX12_names_145 k82 σ x1 x3 x4 x5 x6 x8 x9 s0 = some (r0, σ9) → va_P (dC, dI) vwCl (wG (cM cy ad) ad 40 σ) H → va_D A (wG (cM cy ad) ad 40 σ) → va_S A s.heap H locs → lv_has ls 11 [(0, .ref (ad 0)), (1, .int x1), (3, .int x3), (4, .int x4), (5, .int x5), (6, .int x6), (8, .int x8), (9, .int x9)] → W p l e (headSpec wsX12_names ({ frames := 3, cells := 0, slots := 0, locals := 65 })).room s m (#[.ref (ad 0), .int a1, .int a2, .int a3]) below meth c H locs 0 0 (MQ below (va_Qi (fun (r : Int32) (_ : Unit) => r = r0) (fun (_ : Unit) t => wAt (dC, dI) A (wG (cM cy ad) ad 40 σ9) t) A) (#[.ref (ad 0), .int a1, .int a2, .int a3]) s 0 0 A) (F0 m 145 ls [.int s0]) := by
    intro k82 hk82 σ x1 x3 x4 x5 x6 x8 x9 s0 H locs ls h hP hD hS hl
    unfold fX12_names_145 at h
    refine lv_istore (lv' := [(7, .int s0), (0, .ref (ad 0)), (1, .int x1), (3, .int x3), (4, .int x4), (5, .int x5), (6, .int x6), (8, .int x8), (9, .int x9)]) hx hb dX12_names_145 hl (by decide) rfl (fun ls hl => ?_)
    have hl := lv_sub hl [1, 2, 3, 4, 5, 6, 0, 7, 8] (l' := [(0, .ref (ad 0)), (1, .int x1), (3, .int x3), (4, .int x4), (5, .int x5), (6, .int x6), (7, .int s0), (8, .int x8), (9, .int x9)]) rfl
    refine lv_iconst (v := 0) hx hb dX12_names_147 (by decide) ?_
    refine lv_istore (lv' := [(10, .int 0), (0, .ref (ad 0)), (1, .int x1), (3, .int x3), (4, .int x4), (5, .int x5), (6, .int x6), (7, .int s0), (8, .int x8), (9, .int x9)]) hx hb dX12_names_148 hl (by decide) rfl (fun ls hl => ?_)
    have hl := lv_sub hl [1, 2, 3, 4, 5, 6, 7, 8, 9, 0] (l' := [(0, .ref (ad 0)), (1, .int x1), (3, .int x3), (4, .int x4), (5, .int x5), (6, .int x6), (7, .int s0), (8, .int x8), (9, .int x9), (10, .int 0)]) rfl
    exact w150 _ hk82 FU σ x1 x3 x4 x5 x6 s0 x8 x9 0 H locs ls h hP hD hS hl
  have w144 : ∀ (k82 : S2 → Int32 → Int32 → Int32 → Int32 → Int32 → Int32 → Int32 → Option (Int32 × S2)) (hk82 : ∀ (σ : S2) (x1 : Int32) (x3 : Int32) (x4 : Int32) (x5 : Int32) (x6 : Int32) (x7 : Int32) (x8 : Int32) (H : Heap) (locs : List Loc) (ls : Array Slot), k82 σ x1 x3 x4 x5 x6 x7 x8 = some (r0, σ9) → va_P (dC, dI) vwCl (wG (cM cy ad) ad 40 σ) H → va_D A (wG (cM cy ad) ad 40 σ) → va_S A s.heap H locs → lv_has ls 11 [(0, .ref (ad 0)), (1, .int x1), (3, .int x3), (4, .int x4), (5, .int x5), (6, .int x6), (7, .int x7), (8, .int x8)] → W p l e (headSpec wsX12_names ({ frames := 3, cells := 0, slots := 0, locals := 65 })).room s m (#[.ref (ad 0), .int a1, .int a2, .int a3]) below meth c H locs 0 0 (MQ below (va_Qi (fun (r : Int32) (_ : Unit) => r = r0) (fun (_ : Unit) t => wAt (dC, dI) A (wG (cM cy ad) ad 40 σ9) t) A) (#[.ref (ad 0), .int a1, .int a2, .int a3]) s 0 0 A) (F0 m 82 ls [])) , ∀ (σ : S2) (x1 : Int32) (x3 : Int32) (x4 : Int32) (x5 : Int32) (x6 : Int32) (x8 : Int32) (x9 : Int32) (H : Heap) (locs : List Loc) (ls : Array Slot), fX12_names_144 k82 σ x1 x3 x4 x5 x6 x8 x9 = some (r0, σ9) → va_P (dC, dI) vwCl (wG (cM cy ad) ad 40 σ) H → va_D A (wG (cM cy ad) ad 40 σ) → va_S A s.heap H locs → lv_has ls 11 [(0, .ref (ad 0)), (1, .int x1), (3, .int x3), (4, .int x4), (5, .int x5), (6, .int x6), (8, .int x8), (9, .int x9)] → W p l e (headSpec wsX12_names ({ frames := 3, cells := 0, slots := 0, locals := 65 })).room s m (#[.ref (ad 0), .int a1, .int a2, .int a3]) below meth c H locs 0 0 (MQ below (va_Qi (fun (r : Int32) (_ : Unit) => r = r0) (fun (_ : Unit) t => wAt (dC, dI) A (wG (cM cy ad) ad 40 σ9) t) A) (#[.ref (ad 0), .int a1, .int a2, .int a3]) s 0 0 A) (F0 m 144 ls []) := by
    intro k82 hk82 σ x1 x3 x4 x5 x6 x8 x9 H locs ls h hP hD hS hl
    unfold fX12_names_144 at h
    refine lv_iconst (v := 0) hx hb dX12_names_144 (by decide) ?_
    exact w145 _ hk82 σ x1 x3 x4 x5 x6 x8 x9 0 H locs ls h hP hD hS hl
  have w117 : ∀ (k82 : S2 → Int32 → Int32 → Int32 → Int32 → Int32 → Int32 → Int32 → Option (Int32 × S2)) (hk82 : ∀ (σ : S2) (x1 : Int32) (x3 : Int32) (x4 : Int32) (x5 : Int32) (x6 : Int32) (x7 : Int32) (x8 : Int32) (H : Heap) (locs : List Loc) (ls : Array Slot), k82 σ x1 x3 x4 x5 x6 x7 x8 = some (r0, σ9) → va_P (dC, dI) vwCl (wG (cM cy ad) ad 40 σ) H → va_D A (wG (cM cy ad) ad 40 σ) → va_S A s.heap H locs → lv_has ls 11 [(0, .ref (ad 0)), (1, .int x1), (3, .int x3), (4, .int x4), (5, .int x5), (6, .int x6), (7, .int x7), (8, .int x8)] → W p l e (headSpec wsX12_names ({ frames := 3, cells := 0, slots := 0, locals := 65 })).room s m (#[.ref (ad 0), .int a1, .int a2, .int a3]) below meth c H locs 0 0 (MQ below (va_Qi (fun (r : Int32) (_ : Unit) => r = r0) (fun (_ : Unit) t => wAt (dC, dI) A (wG (cM cy ad) ad 40 σ9) t) A) (#[.ref (ad 0), .int a1, .int a2, .int a3]) s 0 0 A) (F0 m 82 ls [])) , ∀ (σ : S2) (x1 : Int32) (x3 : Int32) (x4 : Int32) (x5 : Int32) (x6 : Int32) (x8 : Int32) (s0 : Int32) (H : Heap) (locs : List Loc) (ls : Array Slot), fX12_names_117 k82 σ x1 x3 x4 x5 x6 x8 s0 = some (r0, σ9) → va_P (dC, dI) vwCl (wG (cM cy ad) ad 40 σ) H → va_D A (wG (cM cy ad) ad 40 σ) → va_S A s.heap H locs → lv_has ls 11 [(0, .ref (ad 0)), (1, .int x1), (3, .int x3), (4, .int x4), (5, .int x5), (6, .int x6), (8, .int x8)] → W p l e (headSpec wsX12_names ({ frames := 3, cells := 0, slots := 0, locals := 65 })).room s m (#[.ref (ad 0), .int a1, .int a2, .int a3]) below meth c H locs 0 0 (MQ below (va_Qi (fun (r : Int32) (_ : Unit) => r = r0) (fun (_ : Unit) t => wAt (dC, dI) A (wG (cM cy ad) ad 40 σ9) t) A) (#[.ref (ad 0), .int a1, .int a2, .int a3]) s 0 0 A) (F0 m 117 ls [.int s0]) := by
    intro k82 hk82 σ x1 x3 x4 x5 x6 x8 s0 H locs ls h hP hD hS hl
    unfold fX12_names_117 at h
    refine lv_istore (lv' := [(9, .int s0), (0, .ref (ad 0)), (1, .int x1), (3, .int x3), (4, .int x4), (5, .int x5), (6, .int x6), (8, .int x8)]) hx hb dX12_names_117 hl (by decide) rfl (fun ls hl => ?_)
    have hl := lv_sub hl [1, 2, 3, 4, 5, 6, 7, 0] (l' := [(0, .ref (ad 0)), (1, .int x1), (3, .int x3), (4, .int x4), (5, .int x5), (6, .int x6), (8, .int x8), (9, .int s0)]) rfl
    refine lv_iload hx hb dX12_names_119 (lv_at hl 7 rfl) ?_
    refine lv_iconst (v := 1) hx hb dX12_names_121 (by decide) ?_
    refine lv_bipush (v := 6) hx hb dX12_names_122 (by decide) ?_
    obtain ⟨r12, hf13, h⟩ := biS h
    refine ux_calli (va_runS (As := [.int s0, .int 1, .int 6]) (rest := []) ⟨hx, hb, hml, hown, hts⟩ (tX12_in l dC dI cy ad σ s0 1 6 H.size r12 hf13) (va_cwS 3 hts gX12_names_X12_in rfl rfl rfl (by decide +kernel) ⟨Nat.le_of_ble_eq_true rfl, Nat.le_of_ble_eq_true rfl⟩) (wp_S hK hN hP hD) rfl rfl hl.1 rfl (lv_room (Nat.le_of_ble_eq_true rfl)) dX12_names_124 ⟨Nat.le_of_ble_eq_true rfl, Nat.le_of_ble_eq_true rfl⟩) hD hS hA (fun H locs hP hD hS => ?_)
    refine lv_if_eq (tgt := 144) hx hb dX12_names_127 (by decide) (fun hcd => ?_) (fun hcd => ?_)
    · have h := cdP hcd h
      exact w144 _ hk82 σ x1 x3 x4 x5 x6 x8 s0 H locs ls h hP hD hS hl
    · have h := cdN hcd h
      refine lv_iload hx hb dX12_names_130 (lv_at hl 4 rfl) ?_
      refine lv_iload hx hb dX12_names_132 (lv_at hl 7 rfl) ?_
      refine lv_iadd hx hb dX12_names_134 ?_
      refine lv_iload hx hb dX12_names_135 (lv_at hl 3 rfl) ?_
      refine lv_icmp_ge (tgt := 144) hx hb dX12_names_137 (by decide) (fun hcd => ?_) (fun hcd => ?_)
      · have h := cdP hcd h
        exact w144 _ hk82 σ x1 x3 x4 x5 x6 x8 s0 H locs ls h hP hD hS hl
      · have h := cdN hcd h
        refine lv_iconst (v := 1) hx hb dX12_names_140 (by decide) ?_
        refine lv_goto (tgt := 145) hx hb dX12_names_141 (by decide) ?_
        exact w145 _ hk82 σ x1 x3 x4 x5 x6 x8 s0 1 H locs ls h hP hD hS hl
  have w82 : ∀ (n : Nat), ∀ (σ : S2) (x1 : Int32) (x3 : Int32) (x4 : Int32) (x5 : Int32) (x6 : Int32) (x7 : Int32) (x8 : Int32) (H : Heap) (locs : List Loc) (ls : Array Slot), fX12_names_82 n σ x1 x3 x4 x5 x6 x7 x8 = some (r0, σ9) → va_P (dC, dI) vwCl (wG (cM cy ad) ad 40 σ) H → va_D A (wG (cM cy ad) ad 40 σ) → va_S A s.heap H locs → lv_has ls 11 [(0, .ref (ad 0)), (1, .int x1), (3, .int x3), (4, .int x4), (5, .int x5), (6, .int x6), (7, .int x7), (8, .int x8)] → W p l e (headSpec wsX12_names ({ frames := 3, cells := 0, slots := 0, locals := 65 })).room s m (#[.ref (ad 0), .int a1, .int a2, .int a3]) below meth c H locs 0 0 (MQ below (va_Qi (fun (r : Int32) (_ : Unit) => r = r0) (fun (_ : Unit) t => wAt (dC, dI) A (wG (cM cy ad) ad 40 σ9) t) A) (#[.ref (ad 0), .int a1, .int a2, .int a3]) s 0 0 A) (F0 m 82 ls []) := by
    intro n
    induction n with
    | zero => intro σ x1 x3 x4 x5 x6 x7 x8 H locs ls h; cases h
    | succ n ih =>
    intro σ x1 x3 x4 x5 x6 x7 x8 H locs ls h hP hD hS hl
    unfold fX12_names_82 at h
    refine lv_iload hx hb dX12_names_82 (lv_at hl 7 rfl) ?_
    refine lv_iload_n hx hb dX12_names_84 rfl (lv_at hl 2 rfl) ?_
    refine lv_icmp_ge (tgt := 287) hx hb dX12_names_85 (by decide) (fun hcd => ?_) (fun hcd => ?_)
    · have h := cdP hcd h
      refine lv_iload hx hb dX12_names_287 (lv_at hl 5 rfl) ?_
      exact ux_iret hx hb hr h hP hD hS hlocks dX12_names_289
    · have h := cdN hcd h
      refine lv_iload hx hb dX12_names_88 (lv_at hl 6 rfl) ?_
      refine lv_if_eq (tgt := 287) hx hb dX12_names_90 (by decide) (fun hcd => ?_) (fun hcd => ?_)
      · have h := cdP hcd h
        refine lv_iload hx hb dX12_names_287 (lv_at hl 5 rfl) ?_
        exact ux_iret hx hb hr h hP hD hS hlocks dX12_names_289
      · have h := cdN hcd h
        refine lv_iload hx hb dX12_names_93 (lv_at hl 4 rfl) ?_
        refine lv_iload hx hb dX12_names_95 (lv_at hl 3 rfl) ?_
        refine lv_icmp_ge (tgt := 116) hx hb dX12_names_97 (by decide) (fun hcd => ?_) (fun hcd => ?_)
        · have h := cdP hcd h
          refine lv_iconst (v := 0) hx hb dX12_names_116 (by decide) ?_
          exact w117 _ ih σ x1 x3 x4 x5 x6 x8 0 H locs ls h hP hD hS (lv_sub hl [0, 1, 2, 3, 4, 5, 7] rfl)
        · have h := cdN hcd h
          refine lv_aload_n hx hb dX12_names_100 rfl (lv_at hl 0 rfl) ?_
          refine ux_get (D := (dC, dI)) (ci := 12) (v := .ref (ad 33)) (C := RX12) (T := TX12) (M := 59) (fs := (oM ad (σ.1 0))) hx hb hts (fun _ h9 => List.mem_cons_of_mem _ (List.mem_append_right _ h9)) hown hK hP 0 (Nat.le_of_ble_eq_true rfl) rfl rfl 42 (by decide) (hts (.fieldLink RX12 111 "SeatsRoundModel" "elements" "[J") (List.mem_of_getElem? (i := 4) rfl)) (fun _ h9 => h9) rfl dX12_names_101 ?_
          refine lv_bipush (v := 60) hx hb dX12_names_104 (by decide) ?_
          refine lv_iload_n hx hb dX12_names_106 rfl (lv_at hl 1 rfl) ?_
          refine lv_imul hx hb dX12_names_107 ?_
          refine lv_iload hx hb dX12_names_108 (lv_at hl 4 rfl) ?_
          refine lv_iadd hx hb dX12_names_110 ?_
          refine ux_lald hx hb hK hP 33 4 (Nat.le_of_ble_eq_true rfl) (cM_33 _ _ _ _) rfl h dX12_names_111 (fun v14 h => ?_)
          change W _ _ _ _ _ _ _ _ _ _ _ _ _ _ _ (F0 m 112 ls [.long v14])
          refine lv_l2i hx hb dX12_names_112 rfl ?_
          refine lv_goto (tgt := 117) hx hb dX12_names_113 (by decide) ?_
          exact w117 _ ih σ x1 x3 x4 x5 x6 x8 (Int64.toInt32 v14) H locs ls h hP hD hS (lv_sub hl [0, 1, 2, 3, 4, 5, 7] rfl)
  have w71 : ∀ (σ : S2) (x1 : Int32) (x3 : Int32) (x4 : Int32) (s0 : Int32) (H : Heap) (locs : List Loc) (ls : Array Slot), fX12_names_71 σ x1 x3 x4 s0 = some (r0, σ9) → va_P (dC, dI) vwCl (wG (cM cy ad) ad 40 σ) H → va_D A (wG (cM cy ad) ad 40 σ) → va_S A s.heap H locs → lv_has ls 11 [(0, .ref (ad 0)), (1, .int x1), (3, .int x3), (4, .int x4)] → W p l e (headSpec wsX12_names ({ frames := 3, cells := 0, slots := 0, locals := 65 })).room s m (#[.ref (ad 0), .int a1, .int a2, .int a3]) below meth c H locs 0 0 (MQ below (va_Qi (fun (r : Int32) (_ : Unit) => r = r0) (fun (_ : Unit) t => wAt (dC, dI) A (wG (cM cy ad) ad 40 σ9) t) A) (#[.ref (ad 0), .int a1, .int a2, .int a3]) s 0 0 A) (F0 m 71 ls [.int s0]) := by
    intro σ x1 x3 x4 s0 H locs ls h hP hD hS hl
    unfold fX12_names_71 at h
    refine lv_istore (lv' := [(5, .int s0), (0, .ref (ad 0)), (1, .int x1), (3, .int x3), (4, .int x4)]) hx hb dX12_names_71 hl (by decide) rfl (fun ls hl => ?_)
    have hl := lv_sub hl [1, 2, 3, 4, 0] (l' := [(0, .ref (ad 0)), (1, .int x1), (3, .int x3), (4, .int x4), (5, .int s0)]) rfl
    refine lv_iconst (v := 0) hx hb dX12_names_73 (by decide) ?_
    refine lv_istore (lv' := [(6, .int 0), (0, .ref (ad 0)), (1, .int x1), (3, .int x3), (4, .int x4), (5, .int s0)]) hx hb dX12_names_74 hl (by decide) rfl (fun ls hl => ?_)
    have hl := lv_sub hl [1, 2, 3, 4, 5, 0] (l' := [(0, .ref (ad 0)), (1, .int x1), (3, .int x3), (4, .int x4), (5, .int s0), (6, .int 0)]) rfl
    refine lv_iconst (v := 1) hx hb dX12_names_76 (by decide) ?_
    refine lv_istore (lv' := [(7, .int 1), (0, .ref (ad 0)), (1, .int x1), (3, .int x3), (4, .int x4), (5, .int s0), (6, .int 0)]) hx hb dX12_names_77 hl (by decide) rfl (fun ls hl => ?_)
    have hl := lv_sub hl [1, 2, 3, 4, 5, 6, 0] (l' := [(0, .ref (ad 0)), (1, .int x1), (3, .int x3), (4, .int x4), (5, .int s0), (6, .int 0), (7, .int 1)]) rfl
    refine lv_iconst (v := 0) hx hb dX12_names_79 (by decide) ?_
    refine lv_istore (lv' := [(8, .int 0), (0, .ref (ad 0)), (1, .int x1), (3, .int x3), (4, .int x4), (5, .int s0), (6, .int 0), (7, .int 1)]) hx hb dX12_names_80 hl (by decide) rfl (fun ls hl => ?_)
    have hl := lv_sub hl [1, 2, 3, 4, 5, 6, 7, 0] (l' := [(0, .ref (ad 0)), (1, .int x1), (3, .int x3), (4, .int x4), (5, .int s0), (6, .int 0), (7, .int 1), (8, .int 0)]) rfl
    exact w82 FU σ x1 x3 x4 s0 0 1 0 H locs ls h hP hD hS hl
  have w59 : ∀ (σ : S2) (x1 : Int32) (x2 : Int32) (x3 : Int32) (s0 : Int32) (H : Heap) (locs : List Loc) (ls : Array Slot), fX12_names_59 σ x1 x2 x3 s0 = some (r0, σ9) → va_P (dC, dI) vwCl (wG (cM cy ad) ad 40 σ) H → va_D A (wG (cM cy ad) ad 40 σ) → va_S A s.heap H locs → lv_has ls 11 [(0, .ref (ad 0)), (1, .int x1), (2, .int x2), (3, .int x3)] → W p l e (headSpec wsX12_names ({ frames := 3, cells := 0, slots := 0, locals := 65 })).room s m (#[.ref (ad 0), .int a1, .int a2, .int a3]) below meth c H locs 0 0 (MQ below (va_Qi (fun (r : Int32) (_ : Unit) => r = r0) (fun (_ : Unit) t => wAt (dC, dI) A (wG (cM cy ad) ad 40 σ9) t) A) (#[.ref (ad 0), .int a1, .int a2, .int a3]) s 0 0 A) (F0 m 59 ls [.int s0]) := by
    intro σ x1 x2 x3 s0 H locs ls h hP hD hS hl
    unfold fX12_names_59 at h
    refine lv_istore (lv' := [(4, .int s0), (0, .ref (ad 0)), (1, .int x1), (2, .int x2), (3, .int x3)]) hx hb dX12_names_59 hl (by decide) rfl (fun ls hl => ?_)
    have hl := lv_sub hl [1, 2, 3, 4, 0] (l' := [(0, .ref (ad 0)), (1, .int x1), (2, .int x2), (3, .int x3), (4, .int s0)]) rfl
    refine lv_iload_n hx hb dX12_names_61 rfl (lv_at hl 2 rfl) ?_
    refine lv_if_ge (tgt := 70) hx hb dX12_names_62 (by decide) (fun hcd => ?_) (fun hcd => ?_)
    · have h := cdP hcd h
      refine lv_iload_n hx hb dX12_names_70 rfl (lv_at hl 2 rfl) ?_
      exact w71 σ x1 x3 s0 x2 H locs ls h hP hD hS (lv_sub hl [0, 1, 3, 4] rfl)
    · have h := cdN hcd h
      refine lv_iload hx hb dX12_names_65 (lv_at hl 4 rfl) ?_
      refine lv_goto (tgt := 71) hx hb dX12_names_67 (by decide) ?_
      exact w71 σ x1 x3 s0 s0 H locs ls h hP hD hS (lv_sub hl [0, 1, 3, 4] rfl)
  have w0 : ∀ (σ : S2) (x1 : Int32) (x2 : Int32) (x3 : Int32) (H : Heap) (locs : List Loc) (ls : Array Slot), fX12_names_0 σ x1 x2 x3 = some (r0, σ9) → va_P (dC, dI) vwCl (wG (cM cy ad) ad 40 σ) H → va_D A (wG (cM cy ad) ad 40 σ) → va_S A s.heap H locs → lv_has ls 11 [(0, .ref (ad 0)), (1, .int x1), (2, .int x2), (3, .int x3)] → W p l e (headSpec wsX12_names ({ frames := 3, cells := 0, slots := 0, locals := 65 })).room s m (#[.ref (ad 0), .int a1, .int a2, .int a3]) below meth c H locs 0 0 (MQ below (va_Qi (fun (r : Int32) (_ : Unit) => r = r0) (fun (_ : Unit) t => wAt (dC, dI) A (wG (cM cy ad) ad 40 σ9) t) A) (#[.ref (ad 0), .int a1, .int a2, .int a3]) s 0 0 A) (F0 m 0 ls []) := by
    intro σ x1 x2 x3 H locs ls h hP hD hS hl
    unfold fX12_names_0 at h
    refine lv_iload_n hx hb dX12_names_0 rfl (lv_at hl 1 rfl) ?_
    obtain ⟨r15, hf16, h⟩ := biS h
    refine ux_calli (va_runS (As := [.int x1]) (rest := []) ⟨hx, hb, hml, hown, hts⟩ (tX12_isShelf l dC dI cy ad σ x1 H.size r15 hf16) (va_cwS 1 hts gX12_names_X12_isShelf rfl rfl rfl (by decide +kernel) ⟨Nat.le_of_ble_eq_true rfl, Nat.le_of_ble_eq_true rfl⟩) (wp_S hK hN hP hD) rfl rfl hl.1 rfl (lv_room (Nat.le_of_ble_eq_true rfl)) dX12_names_1 ⟨Nat.le_of_ble_eq_true rfl, Nat.le_of_ble_eq_true rfl⟩) hD hS hA (fun H locs hP hD hS => ?_)
    refine lv_if_eq (tgt := 17) hx hb dX12_names_4 (by decide) (fun hcd => ?_) (fun hcd => ?_)
    · have h := cdP hcd h
      refine lv_iconst (v := (-1)) hx hb dX12_names_17 (by decide) ?_
      exact ux_iret hx hb hr h hP hD hS hlocks dX12_names_18
    · have h := cdN hcd h
      refine lv_iload_n hx hb dX12_names_7 rfl (lv_at hl 3 rfl) ?_
      refine lv_iconst (v := 1) hx hb dX12_names_8 (by decide) ?_
      refine lv_bipush (v := 20) hx hb dX12_names_9 (by decide) ?_
      obtain ⟨r17, hf18, h⟩ := biS h
      refine ux_calli (va_runS (As := [.int x3, .int 1, .int 20]) (rest := []) ⟨hx, hb, hml, hown, hts⟩ (tX12_in l dC dI cy ad σ x3 1 20 H.size r17 hf18) (va_cwS 3 hts gX12_names_X12_in rfl rfl rfl (by decide +kernel) ⟨Nat.le_of_ble_eq_true rfl, Nat.le_of_ble_eq_true rfl⟩) (wp_S hK hN hP hD) rfl rfl hl.1 rfl (lv_room (Nat.le_of_ble_eq_true rfl)) dX12_names_11 ⟨Nat.le_of_ble_eq_true rfl, Nat.le_of_ble_eq_true rfl⟩) hD hS hA (fun H locs hP hD hS => ?_)
      refine lv_if_ne (tgt := 19) hx hb dX12_names_14 (by decide) (fun hcd => ?_) (fun hcd => ?_)
      · have h := cdN hcd h
        refine lv_aload_n hx hb dX12_names_19 rfl (lv_at hl 0 rfl) ?_
        refine ux_get (D := (dC, dI)) (ci := 12) (v := .ref (ad 30)) (C := RX12) (T := TX12) (M := 59) (fs := (oM ad (σ.1 0))) hx hb hts (fun _ h9 => List.mem_cons_of_mem _ (List.mem_append_right _ h9)) hown hK hP 0 (Nat.le_of_ble_eq_true rfl) rfl rfl 39 (by decide) (hts (.fieldLink RX12 102 "SeatsRoundModel" "shelfIs" "[I") (List.mem_of_getElem? (i := 1) rfl)) (fun _ h9 => h9) rfl dX12_names_20 ?_
        refine lv_iload_n hx hb dX12_names_23 rfl (lv_at hl 1 rfl) ?_
        refine ux_iald hx hb hK hP 30 0 (Nat.le_of_ble_eq_true rfl) (cM_30 _ _ _ _) rfl h dX12_names_24 (fun v19 h => ?_)
        refine lv_if_ge (tgt := 37) hx hb dX12_names_25 (by decide) (fun hcd => ?_) (fun hcd => ?_)
        · have h := cdP hcd h
          refine lv_bipush (v := (-12)) hx hb dX12_names_37 (by decide) ?_
          exact ux_iret hx hb hr h hP hD hS hlocks dX12_names_39
        · have h := cdN hcd h
          refine lv_aload_n hx hb dX12_names_28 rfl (lv_at hl 0 rfl) ?_
          refine ux_get (D := (dC, dI)) (ci := 12) (v := .ref (ad 31)) (C := RX12) (T := TX12) (M := 59) (fs := (oM ad (σ.1 0))) hx hb hts (fun _ h9 => List.mem_cons_of_mem _ (List.mem_append_right _ h9)) hown hK hP 0 (Nat.le_of_ble_eq_true rfl) rfl rfl 40 (by decide) (hts (.fieldLink RX12 105 "SeatsRoundModel" "shelfSort" "[I") (List.mem_of_getElem? (i := 2) rfl)) (fun _ h9 => h9) rfl dX12_names_29 ?_
          refine lv_iload_n hx hb dX12_names_32 rfl (lv_at hl 1 rfl) ?_
          refine ux_iald hx hb hK hP 31 0 (Nat.le_of_ble_eq_true rfl) (cM_31 _ _ _ _) rfl h dX12_names_33 (fun v20 h => ?_)
          refine lv_if_le (tgt := 40) hx hb dX12_names_34 (by decide) (fun hcd => ?_) (fun hcd => ?_)
          · have h := cdP hcd h
            refine lv_aload_n hx hb dX12_names_40 rfl (lv_at hl 0 rfl) ?_
            refine ux_get (D := (dC, dI)) (ci := 12) (v := .ref (ad 31)) (C := RX12) (T := TX12) (M := 59) (fs := (oM ad (σ.1 0))) hx hb hts (fun _ h9 => List.mem_cons_of_mem _ (List.mem_append_right _ h9)) hown hK hP 0 (Nat.le_of_ble_eq_true rfl) rfl rfl 40 (by decide) (hts (.fieldLink RX12 105 "SeatsRoundModel" "shelfSort" "[I") (List.mem_of_getElem? (i := 2) rfl)) (fun _ h9 => h9) rfl dX12_names_41 ?_
            refine lv_iload_n hx hb dX12_names_44 rfl (lv_at hl 1 rfl) ?_
            refine ux_iald hx hb hK hP 31 0 (Nat.le_of_ble_eq_true rfl) (cM_31 _ _ _ _) rfl h dX12_names_45 (fun v21 h => ?_)
            refine lv_if_ne (tgt := 58) hx hb dX12_names_46 (by decide) (fun hcd => ?_) (fun hcd => ?_)
            · have h := cdN hcd h
              refine lv_iconst (v := 0) hx hb dX12_names_58 (by decide) ?_
              exact w59 σ x1 x2 x3 0 H locs ls h hP hD hS hl
            · have h := cdP hcd h
              refine lv_aload_n hx hb dX12_names_49 rfl (lv_at hl 0 rfl) ?_
              refine ux_get (D := (dC, dI)) (ci := 12) (v := .ref (ad 32)) (C := RX12) (T := TX12) (M := 59) (fs := (oM ad (σ.1 0))) hx hb hts (fun _ h9 => List.mem_cons_of_mem _ (List.mem_append_right _ h9)) hown hK hP 0 (Nat.le_of_ble_eq_true rfl) rfl rfl 41 (by decide) (hts (.fieldLink RX12 108 "SeatsRoundModel" "shelfSize" "[I") (List.mem_of_getElem? (i := 3) rfl)) (fun _ h9 => h9) rfl dX12_names_50 ?_
              refine lv_iload_n hx hb dX12_names_53 rfl (lv_at hl 1 rfl) ?_
              refine ux_iald hx hb hK hP 32 0 (Nat.le_of_ble_eq_true rfl) (cM_32 _ _ _ _) rfl h dX12_names_54 (fun v22 h => ?_)
              refine lv_goto (tgt := 59) hx hb dX12_names_55 (by decide) ?_
              exact w59 σ x1 x2 x3 v22 H locs ls h hP hD hS hl
          · have h := cdN hcd h
            refine lv_bipush (v := (-12)) hx hb dX12_names_37 (by decide) ?_
            exact ux_iret hx hb hr h hP hD hS hlocks dX12_names_39
      · have h := cdP hcd h
        refine lv_iconst (v := (-1)) hx hb dX12_names_17 (by decide) ?_
        exact ux_iret hx hb hr h hP hD hS hlocks dX12_names_18
  intro H locs ls h hP hD hS hl
  exact w0 σ a1 a2 a3 H locs ls h hP hD hS (lv_sub hl [0, 1, 2, 3] rfl)

set_option maxHeartbeats 4000000 in
set_option maxRecDepth 100000 in
theorem tX12_count (l : Launch) (dC : Nat → ClassId) (dI : Nat → Nat → Nat) (cy : Nat → ClassId) (ad : Nat → Nat) (σ : S2) (a1 : Int32) (sz : Nat) (r0 : Int32) (h : fX12_count σ a1 = some r0) : Met l yX12_count wsX12_count ({ frames := 2, cells := 0, slots := 0, locals := 47 }) (va_Pc [.ref (ad 0), .int a1] (wPre (dC, dI) cy (wG (cM cy ad) ad 40 σ) sz)) (va_Qi (fun (r : Int32) (_ : Unit) => r = r0) (fun (_ : Unit) t => wAt (dC, dI) (va_A (wG (cM cy ad) ad 40 σ) sz) (wG (cM cy ad) ad 40 σ) t) (va_A (wG (cM cy ad) ad 40 σ) sz)) 0 0 (va_A (wG (cM cy ad) ad 40 σ) sz) := by
  refine Met.ofW (cc := cX12_count) (maxL := 4) (ret := (some .int)) (by decide) rfl ?_
  intro p e s m args below meth c s₁ B hml hv
  obtain ⟨rfl, hsz, hP, hK, hD0, hN⟩ := hv
  have hx := B.exec
  have hb := B.bytes
  have hr := B.returns
  have hts := atoms_spec (ws := wsX12_count) B.pre
  have hown : s.vm.findClass RX12 = some m.cls := findClass_of_methodNamed B.named
  have hlocks := B.notSynchronized
  subst hsz
  have hD := hD0.self (sz := s.heap.size)
  generalize hAe : va_A (wG (cM cy ad) ad 40 σ) s.heap.size = A at hD ⊢
  have hA : ∀ q : Nat, s.heap.size ≤ q → A q := fun q h => by rw [← hAe]; exact Or.inr h
  have hS : va_S A s.heap s.heap [] := va_S.rf
  have hl := lv_entry ([.ref (ad 0), .int a1]) (n := 4) (Nat.le_of_ble_eq_true rfl)
  rw [lg_entry_eq]
  generalize (lg_sl ([.ref (ad 0), .int a1]) ++ List.replicate (4 - (lg_sl ([.ref (ad 0), .int a1])).length) Slot.unset).toArray = ls at hl ⊢
  have hl : lv_has ls 4 [(0, .ref (ad 0)), (1, .int a1)] := hl
  unfold fX12_count at h
  clear hAe hD0
  suffices HH : ∀ (H : Heap) (locs : List Loc) (ls : Array Slot), fX12_count_0 σ a1 = some r0 → va_P (dC, dI) vwCl (wG (cM cy ad) ad 40 σ) H → va_D A (wG (cM cy ad) ad 40 σ) → va_S A s.heap H locs → lv_has ls 4 [(0, .ref (ad 0)), (1, .int a1)] → W p l e (headSpec wsX12_count ({ frames := 2, cells := 0, slots := 0, locals := 47 })).room s m (#[.ref (ad 0), .int a1]) below meth c H locs 0 0 (MQ below (va_Qi (fun (r : Int32) (_ : Unit) => r = r0) (fun (_ : Unit) t => wAt (dC, dI) A (wG (cM cy ad) ad 40 σ) t) A) (#[.ref (ad 0), .int a1]) s 0 0 A) (F0 m 0 ls []) from HH s.heap [] ls h hP hD hS hl
  have w91 : ∀ (k70 : S2 → Int32 → Int32 → Int32 → Option Int32) (hk70 : ∀ (σ : S2) (x1 : Int32) (x2 : Int32) (x3 : Int32) (H : Heap) (locs : List Loc) (ls : Array Slot), k70 σ x1 x2 x3 = some r0 → va_P (dC, dI) vwCl (wG (cM cy ad) ad 40 σ) H → va_D A (wG (cM cy ad) ad 40 σ) → va_S A s.heap H locs → lv_has ls 4 [(0, .ref (ad 0)), (1, .int x1), (2, .int x2), (3, .int x3)] → W p l e (headSpec wsX12_count ({ frames := 2, cells := 0, slots := 0, locals := 47 })).room s m (#[.ref (ad 0), .int a1]) below meth c H locs 0 0 (MQ below (va_Qi (fun (r : Int32) (_ : Unit) => r = r0) (fun (_ : Unit) t => wAt (dC, dI) A (wG (cM cy ad) ad 40 σ) t) A) (#[.ref (ad 0), .int a1]) s 0 0 A) (F0 m 70 ls [])) , ∀ (σ : S2) (x1 : Int32) (x3 : Int32) (s0 : Int32) (s1 : Int32) (s3 : Int32) (H : Heap) (locs : List Loc) (ls : Array Slot), fX12_count_91 k70 σ x1 x3 s0 s1 s3 = some r0 → va_P (dC, dI) vwCl (wG (cM cy ad) ad 40 σ) H → va_D A (wG (cM cy ad) ad 40 σ) → va_S A s.heap H locs → lv_has ls 4 [(0, .ref (ad 0)), (1, .int x1), (3, .int x3)] → W p l e (headSpec wsX12_count ({ frames := 2, cells := 0, slots := 0, locals := 47 })).room s m (#[.ref (ad 0), .int a1]) below meth c H locs 0 0 (MQ below (va_Qi (fun (r : Int32) (_ : Unit) => r = r0) (fun (_ : Unit) t => wAt (dC, dI) A (wG (cM cy ad) ad 40 σ) t) A) (#[.ref (ad 0), .int a1]) s 0 0 A) (F0 m 91 ls [.int s0, .int s1, .ref (ad 0), .int s3]) := by
    intro k70 hk70 σ x1 x3 s0 s1 s3 H locs ls h hP hD hS hl
    unfold fX12_count_91 at h
    obtain ⟨r1, hf2, h⟩ := biS h
    refine ux_calli (va_runV (As := [.int s1, .int s0]) (rest := [.int s3]) ⟨hx, hb, hml, hown, hts⟩ (tX12_many l dC dI cy ad σ s1 s0 H.size r1 hf2) (cwV 2 hts gX12_count_X12_many rfl rfl rfl (by decide +kernel) ⟨Nat.le_of_ble_eq_true rfl, Nat.le_of_ble_eq_true rfl⟩) (wp_V hK hN hP hD (va_recv hK hP (ci := 12) (q0 := 0) rfl (wG_of (Nat.le_of_ble_eq_true rfl) rfl))) rfl rfl hl.1 rfl (lv_room (Nat.le_of_ble_eq_true rfl)) dX12_count_91 ⟨Nat.le_of_ble_eq_true rfl, Nat.le_of_ble_eq_true rfl⟩) hD hS hA (fun H locs hP hD hS => ?_)
    refine lv_iadd hx hb dX12_count_94 ?_
    refine lv_topi (fun v3 ev3 => ?_)
    have h := nmS h ev3
    refine lv_istore_n (lv' := [(2, .int v3), (0, .ref (ad 0)), (1, .int x1), (3, .int x3)]) hx hb dX12_count_95 rfl hl (by decide) rfl (fun ls hl => ?_)
    have hl := lv_sub hl [1, 2, 0, 3] (l' := [(0, .ref (ad 0)), (1, .int x1), (2, .int v3), (3, .int x3)]) rfl
    obtain ⟨v4, ev4⟩ : ∃ y : Int32, y = x3 + 1 := ⟨_, rfl⟩
    have h := nmS h ev4
    refine lv_iinc (v := v4) (lv' := [(3, .int v4), (0, .ref (ad 0)), (1, .int x1), (2, .int v3)]) hx hb dX12_count_96 hl (k := 3) rfl (by rw [ev4]; rfl) (by decide) rfl (fun ls hl => ?_)
    have hl := lv_sub hl [1, 2, 3, 0] (l' := [(0, .ref (ad 0)), (1, .int x1), (2, .int v3), (3, .int v4)]) rfl
    refine lv_goto (tgt := 70) hx hb dX12_count_99 (by decide) ?_
    exact hk70 σ x1 v3 v4 H locs ls h hP hD hS hl
  have w70 : ∀ (n : Nat), ∀ (σ : S2) (x1 : Int32) (x2 : Int32) (x3 : Int32) (H : Heap) (locs : List Loc) (ls : Array Slot), fX12_count_70 n σ x1 x2 x3 = some r0 → va_P (dC, dI) vwCl (wG (cM cy ad) ad 40 σ) H → va_D A (wG (cM cy ad) ad 40 σ) → va_S A s.heap H locs → lv_has ls 4 [(0, .ref (ad 0)), (1, .int x1), (2, .int x2), (3, .int x3)] → W p l e (headSpec wsX12_count ({ frames := 2, cells := 0, slots := 0, locals := 47 })).room s m (#[.ref (ad 0), .int a1]) below meth c H locs 0 0 (MQ below (va_Qi (fun (r : Int32) (_ : Unit) => r = r0) (fun (_ : Unit) t => wAt (dC, dI) A (wG (cM cy ad) ad 40 σ) t) A) (#[.ref (ad 0), .int a1]) s 0 0 A) (F0 m 70 ls []) := by
    intro n
    induction n with
    | zero => intro σ x1 x2 x3 H locs ls h; cases h
    | succ n ih =>
    intro σ x1 x2 x3 H locs ls h hP hD hS hl
    unfold fX12_count_70 at h
    refine lv_iload_n hx hb dX12_count_70 rfl (lv_at hl 3 rfl) ?_
    refine lv_aload_n hx hb dX12_count_71 rfl (lv_at hl 0 rfl) ?_
    refine ux_get (D := (dC, dI)) (ci := 12) (v := .int (σ.1 0 3)) (C := RX12) (T := TX12) (M := 59) (fs := (oM ad (σ.1 0))) hx hb hts (fun _ h9 => List.mem_cons_of_mem _ (List.mem_append_right _ h9)) hown hK hP 0 (Nat.le_of_ble_eq_true rfl) rfl rfl 3 (by decide) (hts (.fieldLink RX12 140 "SeatsRoundModel" "keepers" "I") (List.mem_of_getElem? (i := 2) rfl)) (fun _ h9 => h9) rfl dX12_count_72 ?_
    refine lv_icmp_ge (tgt := 102) hx hb dX12_count_75 (by decide) (fun hcd => ?_) (fun hcd => ?_)
    · have h := cdP hcd h
      refine lv_iload_n hx hb dX12_count_102 rfl (lv_at hl 2 rfl) ?_
      exact ux_iretP hx hb hr h hP hD hS hlocks dX12_count_103
    · have h := cdN hcd h
      refine lv_iload_n hx hb dX12_count_78 rfl (lv_at hl 2 rfl) ?_
      refine lv_aload_n hx hb dX12_count_79 rfl (lv_at hl 0 rfl) ?_
      refine lv_iload_n hx hb dX12_count_80 rfl (lv_at hl 3 rfl) ?_
      refine lv_iload_n hx hb dX12_count_81 rfl (lv_at hl 1 rfl) ?_
      refine lv_iconst (v := 4) hx hb dX12_count_82 (by decide) ?_
      refine lv_icmp_ne (tgt := 90) hx hb dX12_count_83 (by decide) (fun hcd => ?_) (fun hcd => ?_)
      · have h := cdN hcd h
        refine lv_iconst (v := 0) hx hb dX12_count_90 (by decide) ?_
        exact w91 _ ih σ x1 x3 0 x3 x2 H locs ls h hP hD hS (lv_sub hl [0, 1, 3] rfl)
      · have h := cdP hcd h
        refine lv_iconst (v := 1) hx hb dX12_count_86 (by decide) ?_
        refine lv_goto (tgt := 91) hx hb dX12_count_87 (by decide) ?_
        exact w91 _ ih σ x1 x3 1 x3 x2 H locs ls h hP hD hS (lv_sub hl [0, 1, 3] rfl)
  have w0 : ∀ (σ : S2) (x1 : Int32) (H : Heap) (locs : List Loc) (ls : Array Slot), fX12_count_0 σ x1 = some r0 → va_P (dC, dI) vwCl (wG (cM cy ad) ad 40 σ) H → va_D A (wG (cM cy ad) ad 40 σ) → va_S A s.heap H locs → lv_has ls 4 [(0, .ref (ad 0)), (1, .int x1)] → W p l e (headSpec wsX12_count ({ frames := 2, cells := 0, slots := 0, locals := 47 })).room s m (#[.ref (ad 0), .int a1]) below meth c H locs 0 0 (MQ below (va_Qi (fun (r : Int32) (_ : Unit) => r = r0) (fun (_ : Unit) t => wAt (dC, dI) A (wG (cM cy ad) ad 40 σ) t) A) (#[.ref (ad 0), .int a1]) s 0 0 A) (F0 m 0 ls []) := by
    intro σ x1 H locs ls h hP hD hS hl
    unfold fX12_count_0 at h
    refine lv_iconst (v := 0) hx hb dX12_count_0 (by decide) ?_
    refine lv_istore_n (lv' := [(2, .int 0), (0, .ref (ad 0)), (1, .int x1)]) hx hb dX12_count_1 rfl hl (by decide) rfl (fun ls hl => ?_)
    have hl := lv_sub hl [1, 2, 0] (l' := [(0, .ref (ad 0)), (1, .int x1), (2, .int 0)]) rfl
    refine lv_iload_n hx hb dX12_count_2 rfl (lv_at hl 1 rfl) ?_
    by_cases hcd5 : x1 = 0
    · have h := cdP hcd5 h
      refine lv_tableIn (off := 45) (tgt := 48) hx hb dX12_count_3 (by rw [hcd5]; decide) (by rw [hcd5]; decide) (by rw [hcd5]; rfl) (by decide) ?_
      refine lv_aload_n hx hb dX12_count_48 rfl (lv_at hl 0 rfl) ?_
      refine ux_get (D := (dC, dI)) (ci := 12) (v := .int (σ.1 0 0)) (C := RX12) (T := TX12) (M := 59) (fs := (oM ad (σ.1 0))) hx hb hts (fun _ h9 => List.mem_cons_of_mem _ (List.mem_append_right _ h9)) hown hK hP 0 (Nat.le_of_ble_eq_true rfl) rfl rfl 0 (by decide) (hts (.fieldLink RX12 133 "SeatsRoundModel" "names" "I") (List.mem_of_getElem? (i := 1) rfl)) (fun _ h9 => h9) rfl dX12_count_49 ?_
      exact ux_iretP hx hb hr h hP hD hS hlocks dX12_count_52
    · have h := cdN hcd5 h
      have ihcd5 : ¬ x1.toInt = (0 : Int) := fun h9 => hcd5 (Int32.toInt_inj.mp h9)
      by_cases hcd6 : x1 = 1
      · have h := cdP hcd6 h
        refine lv_tableIn (off := 50) (tgt := 53) hx hb dX12_count_3 (by rw [hcd6]; decide) (by rw [hcd6]; decide) (by rw [hcd6]; rfl) (by decide) ?_
        refine lv_aload_n hx hb dX12_count_53 rfl (lv_at hl 0 rfl) ?_
        refine ux_get (D := (dC, dI)) (ci := 12) (v := .int (σ.1 0 3)) (C := RX12) (T := TX12) (M := 59) (fs := (oM ad (σ.1 0))) hx hb hts (fun _ h9 => List.mem_cons_of_mem _ (List.mem_append_right _ h9)) hown hK hP 0 (Nat.le_of_ble_eq_true rfl) rfl rfl 3 (by decide) (hts (.fieldLink RX12 140 "SeatsRoundModel" "keepers" "I") (List.mem_of_getElem? (i := 2) rfl)) (fun _ h9 => h9) rfl dX12_count_54 ?_
        exact ux_iretP hx hb hr h hP hD hS hlocks dX12_count_57
      · have h := cdN hcd6 h
        have ihcd6 : ¬ x1.toInt = (1 : Int) := fun h9 => hcd6 (Int32.toInt_inj.mp h9)
        by_cases hcd7 : x1 = 2
        · have h := cdP hcd7 h
          refine lv_tableIn (off := 55) (tgt := 58) hx hb dX12_count_3 (by rw [hcd7]; decide) (by rw [hcd7]; decide) (by rw [hcd7]; rfl) (by decide) ?_
          refine lv_aload_n hx hb dX12_count_58 rfl (lv_at hl 0 rfl) ?_
          refine ux_get (D := (dC, dI)) (ci := 12) (v := .int (σ.1 0 9)) (C := RX12) (T := TX12) (M := 59) (fs := (oM ad (σ.1 0))) hx hb hts (fun _ h9 => List.mem_cons_of_mem _ (List.mem_append_right _ h9)) hown hK hP 0 (Nat.le_of_ble_eq_true rfl) rfl rfl 9 (by decide) (hts (.fieldLink RX12 143 "SeatsRoundModel" "tables" "I") (List.mem_of_getElem? (i := 3) rfl)) (fun _ h9 => h9) rfl dX12_count_59 ?_
          exact ux_iretP hx hb hr h hP hD hS hlocks dX12_count_62
        · have h := cdN hcd7 h
          have ihcd7 : ¬ x1.toInt = (2 : Int) := fun h9 => hcd7 (Int32.toInt_inj.mp h9)
          by_cases hcd8 : x1 = 3
          · have h := cdP hcd8 h
            refine lv_tableIn (off := 60) (tgt := 63) hx hb dX12_count_3 (by rw [hcd8]; decide) (by rw [hcd8]; decide) (by rw [hcd8]; rfl) (by decide) ?_
            refine lv_aload_n hx hb dX12_count_63 rfl (lv_at hl 0 rfl) ?_
            refine ux_get (D := (dC, dI)) (ci := 12) (v := .int (σ.1 0 22)) (C := RX12) (T := TX12) (M := 59) (fs := (oM ad (σ.1 0))) hx hb hts (fun _ h9 => List.mem_cons_of_mem _ (List.mem_append_right _ h9)) hown hK hP 0 (Nat.le_of_ble_eq_true rfl) rfl rfl 22 (by decide) (hts (.fieldLink RX12 146 "SeatsRoundModel" "taped" "I") (List.mem_of_getElem? (i := 4) rfl)) (fun _ h9 => h9) rfl dX12_count_64 ?_
            exact ux_iretP hx hb hr h hP hD hS hlocks dX12_count_67
          · have h := cdN hcd8 h
            have ihcd8 : ¬ x1.toInt = (3 : Int) := fun h9 => hcd8 (Int32.toInt_inj.mp h9)
            by_cases hcd9 : x1 = 4
            · have h := cdP hcd9 h
              refine lv_tableIn (off := 65) (tgt := 68) hx hb dX12_count_3 (by rw [hcd9]; decide) (by rw [hcd9]; decide) (by rw [hcd9]; rfl) (by decide) ?_
              refine lv_iconst (v := 0) hx hb dX12_count_68 (by decide) ?_
              refine lv_istore_n (lv' := [(3, .int 0), (0, .ref (ad 0)), (1, .int x1), (2, .int 0)]) hx hb dX12_count_69 rfl hl (by decide) rfl (fun ls hl => ?_)
              have hl := lv_sub hl [1, 2, 3, 0] (l' := [(0, .ref (ad 0)), (1, .int x1), (2, .int 0), (3, .int 0)]) rfl
              exact w70 FU σ x1 0 0 H locs ls h hP hD hS hl
            · have h := cdN hcd9 h
              have ihcd9 : ¬ x1.toInt = (4 : Int) := fun h9 => hcd9 (Int32.toInt_inj.mp h9)
              by_cases hcd10 : x1 = 5
              · have h := cdP hcd10 h
                refine lv_tableIn (off := 65) (tgt := 68) hx hb dX12_count_3 (by rw [hcd10]; decide) (by rw [hcd10]; decide) (by rw [hcd10]; rfl) (by decide) ?_
                refine lv_iconst (v := 0) hx hb dX12_count_68 (by decide) ?_
                refine lv_istore_n (lv' := [(3, .int 0), (0, .ref (ad 0)), (1, .int x1), (2, .int 0)]) hx hb dX12_count_69 rfl hl (by decide) rfl (fun ls hl => ?_)
                have hl := lv_sub hl [1, 2, 3, 0] (l' := [(0, .ref (ad 0)), (1, .int x1), (2, .int 0), (3, .int 0)]) rfl
                exact w70 FU σ x1 0 0 H locs ls h hP hD hS hl
              · have h := cdN hcd10 h
                have ihcd10 : ¬ x1.toInt = (5 : Int) := fun h9 => hcd10 (Int32.toInt_inj.mp h9)
                by_cases hcd11 : x1 = 6
                · have h := cdP hcd11 h
                  refine lv_tableIn (off := 101) (tgt := 104) hx hb dX12_count_3 (by rw [hcd11]; decide) (by rw [hcd11]; decide) (by rw [hcd11]; rfl) (by decide) ?_
                  refine lv_aload_n hx hb dX12_count_104 rfl (lv_at hl 0 rfl) ?_
                  refine ux_get (D := (dC, dI)) (ci := 12) (v := .int (σ.1 0 29)) (C := RX12) (T := TX12) (M := 59) (fs := (oM ad (σ.1 0))) hx hb hts (fun _ h9 => List.mem_cons_of_mem _ (List.mem_append_right _ h9)) hown hK hP 0 (Nat.le_of_ble_eq_true rfl) rfl rfl 29 (by decide) (hts (.fieldLink RX12 290 "SeatsRoundModel" "writings" "I") (List.mem_of_getElem? (i := 5) rfl)) (fun _ h9 => h9) rfl dX12_count_105 ?_
                  exact ux_iretP hx hb hr h hP hD hS hlocks dX12_count_108
                · have h := cdN hcd11 h
                  have ihcd11 : ¬ x1.toInt = (6 : Int) := fun h9 => hcd11 (Int32.toInt_inj.mp h9)
                  by_cases hcd12 : x1 = 7
                  · have h := cdP hcd12 h
                    refine lv_tableIn (off := 106) (tgt := 109) hx hb dX12_count_3 (by rw [hcd12]; decide) (by rw [hcd12]; decide) (by rw [hcd12]; rfl) (by decide) ?_
                    refine lv_aload_n hx hb dX12_count_109 rfl (lv_at hl 0 rfl) ?_
                    refine ux_get (D := (dC, dI)) (ci := 12) (v := .int (σ.1 0 38)) (C := RX12) (T := TX12) (M := 59) (fs := (oM ad (σ.1 0))) hx hb hts (fun _ h9 => List.mem_cons_of_mem _ (List.mem_append_right _ h9)) hown hK hP 0 (Nat.le_of_ble_eq_true rfl) rfl rfl 38 (by decide) (hts (.fieldLink RX12 334 "SeatsRoundModel" "bodies" "I") (List.mem_of_getElem? (i := 6) rfl)) (fun _ h9 => h9) rfl dX12_count_110 ?_
                    exact ux_iretP hx hb hr h hP hD hS hlocks dX12_count_113
                  · have h := cdN hcd12 h
                    have ihcd12 : ¬ x1.toInt = (7 : Int) := fun h9 => hcd12 (Int32.toInt_inj.mp h9)
                    refine lv_tableOut (tgt := 114) hx hb dX12_count_3 (by omega) (by decide) ?_
                    refine lv_iconst (v := (-1)) hx hb dX12_count_114 (by decide) ?_
                    exact ux_iretP hx hb hr h hP hD hS hlocks dX12_count_115
  intro H locs ls h hP hD hS hl
  exact w0 σ a1 H locs ls h hP hD hS (lv_sub hl [0, 1] rfl)

