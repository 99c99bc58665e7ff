set_option maxHeartbeats 4000000 in
set_option maxRecDepth 100000 in
theorem uX3_readProduct (l : Launch) (dC : Nat → ClassId) (dI : Nat → Nat → Nat) (cy : Nat → ClassId) (ad : Nat → Nat) (d : Nat) (τ nb : Nat) (hτ : τ < nb) (qX3_readSum : S2 → Int32 → Option (Int32 × S2)) (hqX3_readSum : ∀ (σ : S2) (a1 : Int32) (sz : Nat) (r0 : Int32) (σ9 : S2), qX3_readSum σ a1 = some (r0, σ9) → Met l yX3_readSum wsX3_readSum ({ frames := 3 + d, cells := 0, slots := 0, locals := 65 + 25 * d }) (va_Pc [.ref (ad 13), .int a1] (wPre (dC, dI) cy (wG (cC cy ad τ) ad (182 + 6 * nb) σ) sz)) (va_Qi (fun (r : Int32) (_ : Unit) => r = r0) (fun (_ : Unit) t => wAt (dC, dI) (va_A (wG (cC cy ad τ) ad (182 + 6 * nb) σ) sz) (wG (cC cy ad τ) ad (182 + 6 * nb) σ9) t) (va_A (wG (cC cy ad τ) ad (182 + 6 * nb) σ) sz)) 0 0 (va_A (wG (cC cy ad τ) ad (182 + 6 * nb) σ) sz)) (qX3_readProduct : S2 → Int32 → Option (Int32 × S2)) (hqX3_readProduct : ∀ (σ : S2) (a1 : Int32) (sz : Nat) (r0 : Int32) (σ9 : S2), qX3_readProduct σ a1 = some (r0, σ9) → Met l yX3_readProduct wsX3_readProduct ({ frames := 3 + d, cells := 0, slots := 0, locals := 65 + 25 * d }) (va_Pc [.ref (ad 13), .int a1] (wPre (dC, dI) cy (wG (cC cy ad τ) ad (182 + 6 * nb) σ) sz)) (va_Qi (fun (r : Int32) (_ : Unit) => r = r0) (fun (_ : Unit) t => wAt (dC, dI) (va_A (wG (cC cy ad τ) ad (182 + 6 * nb) σ) sz) (wG (cC cy ad τ) ad (182 + 6 * nb) σ9) t) (va_A (wG (cC cy ad τ) ad (182 + 6 * nb) σ) sz)) 0 0 (va_A (wG (cC cy ad τ) ad (182 + 6 * nb) σ) sz)) (qX3_readOperand : S2 → Int32 → Option (Int32 × S2)) (hqX3_readOperand : ∀ (σ : S2) (a1 : Int32) (sz : Nat) (r0 : Int32) (σ9 : S2), qX3_readOperand σ a1 = some (r0, σ9) → Met l yX3_readOperand wsX3_readOperand ({ frames := 3 + d, cells := 0, slots := 0, locals := 65 + 25 * d }) (va_Pc [.ref (ad 13), .int a1] (wPre (dC, dI) cy (wG (cC cy ad τ) ad (182 + 6 * nb) σ) sz)) (va_Qi (fun (r : Int32) (_ : Unit) => r = r0) (fun (_ : Unit) t => wAt (dC, dI) (va_A (wG (cC cy ad τ) ad (182 + 6 * nb) σ) sz) (wG (cC cy ad τ) ad (182 + 6 * nb) σ9) t) (va_A (wG (cC cy ad τ) ad (182 + 6 * nb) σ) sz)) 0 0 (va_A (wG (cC cy ad τ) ad (182 + 6 * nb) σ) sz)) (qX3_readBracket : S2 → Int32 → Option (Int32 × S2)) (hqX3_readBracket : ∀ (σ : S2) (a1 : Int32) (sz : Nat) (r0 : Int32) (σ9 : S2), qX3_readBracket σ a1 = some (r0, σ9) → Met l yX3_readBracket wsX3_readBracket ({ frames := 3 + d, cells := 0, slots := 0, locals := 65 + 25 * d }) (va_Pc [.ref (ad 13), .int a1] (wPre (dC, dI) cy (wG (cC cy ad τ) ad (182 + 6 * nb) σ) sz)) (va_Qi (fun (r : Int32) (_ : Unit) => r = r0) (fun (_ : Unit) t => wAt (dC, dI) (va_A (wG (cC cy ad τ) ad (182 + 6 * nb) σ) sz) (wG (cC cy ad τ) ad (182 + 6 * nb) σ9) t) (va_A (wG (cC cy ad τ) ad (182 + 6 * nb) σ) sz)) 0 0 (va_A (wG (cC cy ad τ) ad (182 + 6 * nb) σ) sz)) (σ : S2) (a1 : Int32) (sz : Nat) (r0 : Int32) (σ9 : S2) (h : eX3_readProduct τ qX3_readSum qX3_readProduct qX3_readOperand qX3_readBracket σ a1 = some (r0, σ9)) : Met l yX3_readProduct wsX3_readProduct ({ frames := 3 + (d + 1), cells := 0, slots := 0, locals := 65 + 25 * (d + 1) }) (va_Pc [.ref (ad 13), .int a1] (wPre (dC, dI) cy (wG (cC cy ad τ) ad (182 + 6 * nb) σ) sz)) (va_Qi (fun (r : Int32) (_ : Unit) => r = r0) (fun (_ : Unit) t => wAt (dC, dI) (va_A (wG (cC cy ad τ) ad (182 + 6 * nb) σ) sz) (wG (cC cy ad τ) ad (182 + 6 * nb) σ9) t) (va_A (wG (cC cy ad τ) ad (182 + 6 * nb) σ) sz)) 0 0 (va_A (wG (cC cy ad τ) ad (182 + 6 * nb) σ) sz) := by
  refine Met.ofW (cc := cX3_readProduct) (maxL := 6) (ret := (some .int)) (by decide) rfl ?_
  intro p e s m args below meth c s₁ B hml hv
  obtain ⟨rfl, hsz, hP, hK, hD0, hN⟩ := hv
  have hx := B.exec
  have hb := B.bytes
  have hr := B.returns
  have hts := atoms_spec (ws := wsX3_readProduct) B.pre
  have hown : s.vm.findClass RX3 = some m.cls := findClass_of_methodNamed B.named
  have hlocks := B.notSynchronized
  subst hsz
  have hD := hD0.self (sz := s.heap.size)
  generalize hAe : va_A (wG (cC cy ad τ) ad (182 + 6 * nb) σ) s.heap.size = A at hD ⊢
  have hA : ∀ q : Nat, s.heap.size ≤ q → A q := fun q h => by rw [← hAe]; exact Or.inr h
  have hS : va_S A s.heap s.heap [] := va_S.rf
  have hl := lv_entry ([.ref (ad 13), .int a1]) (n := 6) (Nat.le_of_ble_eq_true rfl)
  rw [lg_entry_eq]
  generalize (lg_sl ([.ref (ad 13), .int a1]) ++ List.replicate (6 - (lg_sl ([.ref (ad 13), .int a1])).length) Slot.unset).toArray = ls at hl ⊢
  have hl : lv_has ls 6 [(0, .ref (ad 13)), (1, .int a1)] := hl
  unfold eX3_readProduct at h
  clear hAe hD0
  suffices HH : ∀ (H : Heap) (locs : List Loc) (ls : Array Slot), fX3_readProduct_0 τ qX3_readSum qX3_readProduct qX3_readOperand qX3_readBracket σ a1 = some (r0, σ9) → va_P (dC, dI) vwCl (wG (cC cy ad τ) ad (182 + 6 * nb) σ) H → va_D A (wG (cC cy ad τ) ad (182 + 6 * nb) σ) → va_S A s.heap H locs → lv_has ls 6 [(0, .ref (ad 13)), (1, .int a1)] → W p l e (headSpec wsX3_readProduct ({ frames := 3 + (d + 1), cells := 0, slots := 0, locals := 65 + 25 * (d + 1) })).room s m (#[.ref (ad 13), .int a1]) below meth c H locs 0 0 (MQ below (va_Qi (fun (r : Int32) (_ : Unit) => r = r0) (fun (_ : Unit) t => wAt (dC, dI) A (wG (cC cy ad τ) ad (182 + 6 * nb) σ9) t) A) (#[.ref (ad 13), .int a1]) s 0 0 A) (F0 m 0 ls []) from HH s.heap [] ls h hP hD hS hl
  have w113 : ∀ (k8 : S2 → Int32 → Int32 → Int32 → Option (Int32 × S2)) (hk8 : ∀ (σ : S2) (x1 : Int32) (x2 : Int32) (x3 : Int32) (H : Heap) (locs : List Loc) (ls : Array Slot), k8 σ x1 x2 x3 = some (r0, σ9) → va_P (dC, dI) vwCl (wG (cC cy ad τ) ad (182 + 6 * nb) σ) H → va_D A (wG (cC cy ad τ) ad (182 + 6 * nb) σ) → va_S A s.heap H locs → lv_has ls 6 [(0, .ref (ad 13)), (1, .int x1), (2, .int x2), (3, .int x3)] → W p l e (headSpec wsX3_readProduct ({ frames := 3 + (d + 1), cells := 0, slots := 0, locals := 65 + 25 * (d + 1) })).room s m (#[.ref (ad 13), .int a1]) below meth c H locs 0 0 (MQ below (va_Qi (fun (r : Int32) (_ : Unit) => r = r0) (fun (_ : Unit) t => wAt (dC, dI) A (wG (cC cy ad τ) ad (182 + 6 * nb) σ9) t) A) (#[.ref (ad 13), .int a1]) s 0 0 A) (F0 m 8 ls [])) , ∀ (σ : S2) (x1 : Int32) (x2 : Int32) (x3 : Int32) (H : Heap) (locs : List Loc) (ls : Array Slot), fX3_readProduct_113 τ qX3_readSum qX3_readProduct qX3_readOperand qX3_readBracket k8 σ x1 x2 x3 = some (r0, σ9) → va_P (dC, dI) vwCl (wG (cC cy ad τ) ad (182 + 6 * nb) σ) H → va_D A (wG (cC cy ad τ) ad (182 + 6 * nb) σ) → va_S A s.heap H locs → lv_has ls 6 [(0, .ref (ad 13)), (1, .int x1), (2, .int x2), (3, .int x3)] → W p l e (headSpec wsX3_readProduct ({ frames := 3 + (d + 1), cells := 0, slots := 0, locals := 65 + 25 * (d + 1) })).room s m (#[.ref (ad 13), .int a1]) below meth c H locs 0 0 (MQ below (va_Qi (fun (r : Int32) (_ : Unit) => r = r0) (fun (_ : Unit) t => wAt (dC, dI) A (wG (cC cy ad τ) ad (182 + 6 * nb) σ9) t) A) (#[.ref (ad 13), .int a1]) s 0 0 A) (F0 m 113 ls []) := by
    intro k8 hk8 σ x1 x2 x3 H locs ls h hP hD hS hl
    unfold fX3_readProduct_113 at h
    obtain ⟨v1, ev1⟩ : ∃ y : Int32, y = x3 + 1 := ⟨_, rfl⟩
    have h := nmS h ev1
    refine lv_iinc (v := v1) (lv' := [(3, .int v1), (0, .ref (ad 13)), (1, .int x1), (2, .int x2)]) hx hb dX3_readProduct_113 hl (k := 3) rfl (by rw [ev1]; rfl) (by decide) rfl (fun ls hl => ?_)
    have hl := lv_sub hl [1, 2, 3, 0] (l' := [(0, .ref (ad 13)), (1, .int x1), (2, .int x2), (3, .int v1)]) rfl
    refine lv_goto (tgt := 8) hx hb dX3_readProduct_116 (by decide) ?_
    exact hk8 σ x1 x2 v1 H locs ls h hP hD hS hl
  have w112 : ∀ (k8 : S2 → Int32 → Int32 → Int32 → Option (Int32 × S2)) (hk8 : ∀ (σ : S2) (x1 : Int32) (x2 : Int32) (x3 : Int32) (H : Heap) (locs : List Loc) (ls : Array Slot), k8 σ x1 x2 x3 = some (r0, σ9) → va_P (dC, dI) vwCl (wG (cC cy ad τ) ad (182 + 6 * nb) σ) H → va_D A (wG (cC cy ad τ) ad (182 + 6 * nb) σ) → va_S A s.heap H locs → lv_has ls 6 [(0, .ref (ad 13)), (1, .int x1), (2, .int x2), (3, .int x3)] → W p l e (headSpec wsX3_readProduct ({ frames := 3 + (d + 1), cells := 0, slots := 0, locals := 65 + 25 * (d + 1) })).room s m (#[.ref (ad 13), .int a1]) below meth c H locs 0 0 (MQ below (va_Qi (fun (r : Int32) (_ : Unit) => r = r0) (fun (_ : Unit) t => wAt (dC, dI) A (wG (cC cy ad τ) ad (182 + 6 * nb) σ9) t) A) (#[.ref (ad 13), .int a1]) s 0 0 A) (F0 m 8 ls [])) , ∀ (σ : S2) (x1 : Int32) (x3 : Int32) (s0 : Int32) (H : Heap) (locs : List Loc) (ls : Array Slot), fX3_readProduct_112 τ qX3_readSum qX3_readProduct qX3_readOperand qX3_readBracket k8 σ x1 x3 s0 = some (r0, σ9) → va_P (dC, dI) vwCl (wG (cC cy ad τ) ad (182 + 6 * nb) σ) H → va_D A (wG (cC cy ad τ) ad (182 + 6 * nb) σ) → va_S A s.heap H locs → lv_has ls 6 [(0, .ref (ad 13)), (1, .int x1), (3, .int x3)] → W p l e (headSpec wsX3_readProduct ({ frames := 3 + (d + 1), cells := 0, slots := 0, locals := 65 + 25 * (d + 1) })).room s m (#[.ref (ad 13), .int a1]) below meth c H locs 0 0 (MQ below (va_Qi (fun (r : Int32) (_ : Unit) => r = r0) (fun (_ : Unit) t => wAt (dC, dI) A (wG (cC cy ad τ) ad (182 + 6 * nb) σ9) t) A) (#[.ref (ad 13), .int a1]) s 0 0 A) (F0 m 112 ls [.int s0]) := by
    intro k8 hk8 σ x1 x3 s0 H locs ls h hP hD hS hl
    unfold fX3_readProduct_112 at h
    refine lv_istore_n (lv' := [(2, .int s0), (0, .ref (ad 13)), (1, .int x1), (3, .int x3)]) hx hb dX3_readProduct_112 rfl hl (by decide) rfl (fun ls hl => ?_)
    have hl := lv_sub hl [1, 2, 0, 3] (l' := [(0, .ref (ad 13)), (1, .int x1), (2, .int s0), (3, .int x3)]) rfl
    exact w113 _ hk8 σ x1 s0 x3 H locs ls h hP hD hS hl
  have w52 : ∀ (k8 : S2 → Int32 → Int32 → Int32 → Option (Int32 × S2)) (hk8 : ∀ (σ : S2) (x1 : Int32) (x2 : Int32) (x3 : Int32) (H : Heap) (locs : List Loc) (ls : Array Slot), k8 σ x1 x2 x3 = some (r0, σ9) → va_P (dC, dI) vwCl (wG (cC cy ad τ) ad (182 + 6 * nb) σ) H → va_D A (wG (cC cy ad τ) ad (182 + 6 * nb) σ) → va_S A s.heap H locs → lv_has ls 6 [(0, .ref (ad 13)), (1, .int x1), (2, .int x2), (3, .int x3)] → W p l e (headSpec wsX3_readProduct ({ frames := 3 + (d + 1), cells := 0, slots := 0, locals := 65 + 25 * (d + 1) })).room s m (#[.ref (ad 13), .int a1]) below meth c H locs 0 0 (MQ below (va_Qi (fun (r : Int32) (_ : Unit) => r = r0) (fun (_ : Unit) t => wAt (dC, dI) A (wG (cC cy ad τ) ad (182 + 6 * nb) σ9) t) A) (#[.ref (ad 13), .int a1]) s 0 0 A) (F0 m 8 ls [])) , ∀ (σ : S2) (x1 : Int32) (x2 : Int32) (x3 : Int32) (x4 : Int32) (H : Heap) (locs : List Loc) (ls : Array Slot), fX3_readProduct_52 τ qX3_readSum qX3_readProduct qX3_readOperand qX3_readBracket k8 σ x1 x2 x3 x4 = some (r0, σ9) → va_P (dC, dI) vwCl (wG (cC cy ad τ) ad (182 + 6 * nb) σ) H → va_D A (wG (cC cy ad τ) ad (182 + 6 * nb) σ) → va_S A s.heap H locs → lv_has ls 6 [(0, .ref (ad 13)), (1, .int x1), (2, .int x2), (3, .int x3), (4, .int x4)] → W p l e (headSpec wsX3_readProduct ({ frames := 3 + (d + 1), cells := 0, slots := 0, locals := 65 + 25 * (d + 1) })).room s m (#[.ref (ad 13), .int a1]) below meth c H locs 0 0 (MQ below (va_Qi (fun (r : Int32) (_ : Unit) => r = r0) (fun (_ : Unit) t => wAt (dC, dI) A (wG (cC cy ad τ) ad (182 + 6 * nb) σ9) t) A) (#[.ref (ad 13), .int a1]) s 0 0 A) (F0 m 52 ls []) := by
    intro k8 hk8 σ x1 x2 x3 x4 H locs ls h hP hD hS hl
    unfold fX3_readProduct_52 at h
    refine lv_aload_n hx hb dX3_readProduct_52 rfl (lv_at hl 0 rfl) ?_
    refine lv_dup hx hb dX3_readProduct_53 rfl ?_
    refine ux_get (D := (dC, dI)) (ci := 3) (v := .int (σ.1 13 2)) (C := RX3) (T := TX3) (M := 8) (fs := (oLW ad (σ.1 13))) hx hb hts (fun _ h9 => List.mem_cons_of_mem _ (List.mem_append_right _ h9)) hown hK hP 13 (Nat.lt_of_lt_of_le (Nat.le_of_ble_eq_true rfl : 13 < 182) (Nat.le_add_right _ _)) (cC_13 _ _ _ _ _) rfl 2 (by decide) (hts (.fieldLink RX3 19 "SeatsRound$Law" "at" "I") (List.mem_of_getElem? (i := 2) rfl)) (fun _ h9 => h9) rfl dX3_readProduct_54 ?_
    refine lv_iconst (v := 1) hx hb dX3_readProduct_57 (by decide) ?_
    refine lv_iadd hx hb dX3_readProduct_58 ?_
    refine ux_put (D := (dC, dI)) (ci := 3) (C := RX3) (T := TX3) (M := 8) (fs := (oLW ad (σ.1 13))) hx hb hts (fun _ h9 => List.mem_cons_of_mem _ (List.mem_append_right _ h9)) tyX3 tyX3_ok nmX3 hown hK hP hD hS 13 (Nat.lt_of_lt_of_le (Nat.le_of_ble_eq_true rfl : 13 < 182) (Nat.le_add_right _ _)) (cC_13 _ _ _ _ _) rfl 2 (by decide) (hts (.fieldLink RX3 19 "SeatsRound$Law" "at" "I") (List.mem_of_getElem? (i := 2) rfl)) (fun _ h9 => h9) rfl (tyX3_ok 2 (by decide)) rfl rfl (Nat.le_of_ble_eq_true rfl) (oC_13_2 _ _ _ _ _ _) h dX3_readProduct_59 (fun σ2 H locs h hP hD hS => ?_)
    refine lv_aload_n hx hb dX3_readProduct_62 rfl (lv_at hl 0 rfl) ?_
    refine lv_iload_n hx hb dX3_readProduct_63 rfl (lv_at hl 1 rfl) ?_
    obtain ⟨r3, σ4, hf5, h⟩ := bsS h
    refine ux_calli (va_runV (As := [.int x1]) (rest := []) ⟨hx, hb, hml, hown, hts⟩ (hqX3_readOperand σ2 x1 H.size r3 σ4 hf5) (cwV 1 hts gX3_readProduct_X3_readOperand rfl rfl rfl (by decide +kernel) ⟨by show (3 + d) + 1 ≤ 3 + (d + 1); omega, by show 8 + (4 + 11) + (65 + 25 * d) ≤ 65 + 25 * (d + 1); omega⟩) (wp_V hK hN hP hD (va_recv hK hP (ci := 3) (q0 := 13) rfl (wG_of (Nat.lt_of_lt_of_le (Nat.le_of_ble_eq_true rfl : 13 < 182) (Nat.le_add_right _ _)) (cC_13 _ _ _ _ _)))) rfl rfl hl.1 rfl (lv_room (Nat.le_of_ble_eq_true rfl)) dX3_readProduct_64 ⟨Nat.le_of_ble_eq_true rfl, Nat.le_of_ble_eq_true rfl⟩) hD hS hA (fun H locs hP hD hS => ?_)
    refine lv_istore (lv' := [(5, .int r3), (0, .ref (ad 13)), (1, .int x1), (2, .int x2), (3, .int x3), (4, .int x4)]) hx hb dX3_readProduct_67 hl (by decide) rfl (fun ls hl => ?_)
    have hl := lv_sub hl [1, 2, 3, 4, 5, 0] (l' := [(0, .ref (ad 13)), (1, .int x1), (2, .int x2), (3, .int x3), (4, .int x4), (5, .int r3)]) rfl
    refine lv_iload hx hb dX3_readProduct_69 (lv_at hl 4 rfl) ?_
    refine lv_bipush (v := 42) hx hb dX3_readProduct_71 (by decide) ?_
    refine lv_icmp_ne (tgt := 84) hx hb dX3_readProduct_73 (by decide) (fun hcd => ?_) (fun hcd => ?_)
    · have h := cdN hcd h
      refine lv_iload hx hb dX3_readProduct_84 (lv_at hl 5 rfl) ?_
      refine lv_if_ne (tgt := 94) hx hb dX3_readProduct_86 (by decide) (fun hcd => ?_) (fun hcd => ?_)
      · have h := cdN hcd h
        refine lv_iload hx hb dX3_readProduct_94 (lv_at hl 4 rfl) ?_
        refine lv_bipush (v := 47) hx hb dX3_readProduct_96 (by decide) ?_
        refine lv_icmp_ne (tgt := 108) hx hb dX3_readProduct_98 (by decide) (fun hcd => ?_) (fun hcd => ?_)
        · have h := cdN hcd h
          refine lv_iload_n hx hb dX3_readProduct_108 rfl (lv_at hl 2 rfl) ?_
          refine lv_iload hx hb dX3_readProduct_109 (lv_at hl 5 rfl) ?_
          obtain ⟨hz6, h⟩ := dzS h
          refine lv_irem hx hb dX3_readProduct_111 hz6 ?_
          exact w112 _ hk8 σ4 x1 x3 (x2 - x2 / r3 * r3) H locs ls h hP hD hS (lv_sub hl [0, 1, 3] rfl)
        · have h := cdP hcd h
          refine lv_iload_n hx hb dX3_readProduct_101 rfl (lv_at hl 2 rfl) ?_
          refine lv_iload hx hb dX3_readProduct_102 (lv_at hl 5 rfl) ?_
          obtain ⟨hz7, h⟩ := dzS h
          refine lv_idiv hx hb dX3_readProduct_104 hz7 ?_
          refine lv_goto (tgt := 112) hx hb dX3_readProduct_105 (by decide) ?_
          exact w112 _ hk8 σ4 x1 x3 (x2 / r3) H locs ls h hP hD hS (lv_sub hl [0, 1, 3] rfl)
      · have h := cdP hcd h
        refine lv_iconst (v := 0) hx hb dX3_readProduct_89 (by decide) ?_
        refine lv_istore_n (lv' := [(2, .int 0), (0, .ref (ad 13)), (1, .int x1), (3, .int x3), (4, .int x4), (5, .int r3)]) hx hb dX3_readProduct_90 rfl hl (by decide) rfl (fun ls hl => ?_)
        have hl := lv_sub hl [1, 2, 0, 3, 4, 5] (l' := [(0, .ref (ad 13)), (1, .int x1), (2, .int 0), (3, .int x3), (4, .int x4), (5, .int r3)]) rfl
        refine lv_goto (tgt := 113) hx hb dX3_readProduct_91 (by decide) ?_
        exact w113 _ hk8 σ4 x1 0 x3 H locs ls h hP hD hS (lv_sub hl [0, 1, 2, 3] rfl)
    · have h := cdP hcd h
      refine lv_iload_n hx hb dX3_readProduct_76 rfl (lv_at hl 2 rfl) ?_
      refine lv_iload hx hb dX3_readProduct_77 (lv_at hl 5 rfl) ?_
      refine lv_imul hx hb dX3_readProduct_79 ?_
      refine lv_topi (fun v8 ev8 => ?_)
      have h := nmS h ev8
      refine lv_istore_n (lv' := [(2, .int v8), (0, .ref (ad 13)), (1, .int x1), (3, .int x3), (4, .int x4), (5, .int r3)]) hx hb dX3_readProduct_80 rfl hl (by decide) rfl (fun ls hl => ?_)
      have hl := lv_sub hl [1, 2, 0, 3, 4, 5] (l' := [(0, .ref (ad 13)), (1, .int x1), (2, .int v8), (3, .int x3), (4, .int x4), (5, .int r3)]) rfl
      refine lv_goto (tgt := 113) hx hb dX3_readProduct_81 (by decide) ?_
      exact w113 _ hk8 σ4 x1 v8 x3 H locs ls h hP hD hS (lv_sub hl [0, 1, 2, 3] rfl)
  have w8 : ∀ (n : Nat), ∀ (σ : S2) (x1 : Int32) (x2 : Int32) (x3 : Int32) (H : Heap) (locs : List Loc) (ls : Array Slot), fX3_readProduct_8 τ qX3_readSum qX3_readProduct qX3_readOperand qX3_readBracket n σ x1 x2 x3 = some (r0, σ9) → va_P (dC, dI) vwCl (wG (cC cy ad τ) ad (182 + 6 * nb) σ) H → va_D A (wG (cC cy ad τ) ad (182 + 6 * nb) σ) → va_S A s.heap H locs → lv_has ls 6 [(0, .ref (ad 13)), (1, .int x1), (2, .int x2), (3, .int x3)] → W p l e (headSpec wsX3_readProduct ({ frames := 3 + (d + 1), cells := 0, slots := 0, locals := 65 + 25 * (d + 1) })).room s m (#[.ref (ad 13), .int a1]) below meth c H locs 0 0 (MQ below (va_Qi (fun (r : Int32) (_ : Unit) => r = r0) (fun (_ : Unit) t => wAt (dC, dI) A (wG (cC cy ad τ) ad (182 + 6 * nb) σ9) t) A) (#[.ref (ad 13), .int a1]) s 0 0 A) (F0 m 8 ls []) := by
    intro n
    induction n with
    | zero => intro σ x1 x2 x3 H locs ls h; cases h
    | succ n ih =>
    intro σ x1 x2 x3 H locs ls h hP hD hS hl
    unfold fX3_readProduct_8 at h
    refine lv_iload_n hx hb dX3_readProduct_8 rfl (lv_at hl 3 rfl) ?_
    refine lv_bipush (v := 80) hx hb dX3_readProduct_9 (by decide) ?_
    refine lv_icmp_ge (tgt := 119) hx hb dX3_readProduct_11 (by decide) (fun hcd => ?_) (fun hcd => ?_)
    · have h := cdP hcd h
      refine lv_iload_n hx hb dX3_readProduct_119 rfl (lv_at hl 2 rfl) ?_
      exact ux_iret hx hb hr h hP hD hS hlocks dX3_readProduct_120
    · have h := cdN hcd h
      refine lv_aload_n hx hb dX3_readProduct_14 rfl (lv_at hl 0 rfl) ?_
      refine ux_get (D := (dC, dI)) (ci := 3) (v := .int (σ.1 13 3)) (C := RX3) (T := TX3) (M := 8) (fs := (oLW ad (σ.1 13))) hx hb hts (fun _ h9 => List.mem_cons_of_mem _ (List.mem_append_right _ h9)) hown hK hP 13 (Nat.lt_of_lt_of_le (Nat.le_of_ble_eq_true rfl : 13 < 182) (Nat.le_add_right _ _)) (cC_13 _ _ _ _ _) rfl 3 (by decide) (hts (.fieldLink RX3 22 "SeatsRound$Law" "fault" "I") (List.mem_of_getElem? (i := 1) rfl)) (fun _ h9 => h9) rfl dX3_readProduct_15 ?_
      refine lv_iconst (v := (-1)) hx hb dX3_readProduct_18 (by decide) ?_
      refine lv_icmp_ne (tgt := 119) hx hb dX3_readProduct_19 (by decide) (fun hcd => ?_) (fun hcd => ?_)
      · have h := cdN hcd h
        refine lv_iload_n hx hb dX3_readProduct_119 rfl (lv_at hl 2 rfl) ?_
        exact ux_iret hx hb hr h hP hD hS hlocks dX3_readProduct_120
      · have h := cdP hcd h
        refine lv_aload_n hx hb dX3_readProduct_22 rfl (lv_at hl 0 rfl) ?_
        obtain ⟨r9, hf10, h⟩ := biS h
        refine ux_calli (va_runV (As := []) (rest := []) ⟨hx, hb, hml, hown, hts⟩ (tX3_sign l dC dI cy ad τ nb hτ σ H.size r9 hf10) (cwV 0 hts gX3_readProduct_X3_sign rfl rfl rfl (by decide +kernel) ⟨by show 1 + 1 ≤ 3 + (d + 1); omega, by show 8 + (1 + 11) + 23 ≤ 65 + 25 * (d + 1); omega⟩) (wp_V hK hN hP hD (va_recv hK hP (ci := 3) (q0 := 13) rfl (wG_of (Nat.lt_of_lt_of_le (Nat.le_of_ble_eq_true rfl : 13 < 182) (Nat.le_add_right _ _)) (cC_13 _ _ _ _ _)))) rfl rfl hl.1 rfl (lv_room (Nat.le_of_ble_eq_true rfl)) dX3_readProduct_23 ⟨Nat.le_of_ble_eq_true rfl, Nat.le_of_ble_eq_true rfl⟩) hD hS hA (fun H locs hP hD hS => ?_)
        refine lv_istore (lv' := [(4, .int r9), (0, .ref (ad 13)), (1, .int x1), (2, .int x2), (3, .int x3)]) hx hb dX3_readProduct_26 hl (by decide) rfl (fun ls hl => ?_)
        have hl := lv_sub hl [1, 2, 3, 4, 0] (l' := [(0, .ref (ad 13)), (1, .int x1), (2, .int x2), (3, .int x3), (4, .int r9)]) rfl
        refine lv_iload hx hb dX3_readProduct_28 (lv_at hl 4 rfl) ?_
        refine lv_bipush (v := 42) hx hb dX3_readProduct_30 (by decide) ?_
        refine lv_icmp_eq (tgt := 52) hx hb dX3_readProduct_32 (by decide) (fun hcd => ?_) (fun hcd => ?_)
        · have h := cdP hcd h
          exact w52 _ ih σ x1 x2 x3 r9 H locs ls h hP hD hS hl
        · have h := cdN hcd h
          refine lv_iload hx hb dX3_readProduct_35 (lv_at hl 4 rfl) ?_
          refine lv_bipush (v := 47) hx hb dX3_readProduct_37 (by decide) ?_
          refine lv_icmp_eq (tgt := 52) hx hb dX3_readProduct_39 (by decide) (fun hcd => ?_) (fun hcd => ?_)
          · have h := cdP hcd h
            exact w52 _ ih σ x1 x2 x3 r9 H locs ls h hP hD hS hl
          · have h := cdN hcd h
            refine lv_iload hx hb dX3_readProduct_42 (lv_at hl 4 rfl) ?_
            refine lv_bipush (v := 37) hx hb dX3_readProduct_44 (by decide) ?_
            refine lv_icmp_eq (tgt := 52) hx hb dX3_readProduct_46 (by decide) (fun hcd => ?_) (fun hcd => ?_)
            · have h := cdP hcd h
              exact w52 _ ih σ x1 x2 x3 r9 H locs ls h hP hD hS hl
            · have h := cdN hcd h
              refine lv_goto (tgt := 119) hx hb dX3_readProduct_49 (by decide) ?_
              refine lv_iload_n hx hb dX3_readProduct_119 rfl (lv_at hl 2 rfl) ?_
              exact ux_iret hx hb hr h hP hD hS hlocks dX3_readProduct_120
  have w0 : ∀ (σ : S2) (x1 : Int32) (H : Heap) (locs : List Loc) (ls : Array Slot), fX3_readProduct_0 τ qX3_readSum qX3_readProduct qX3_readOperand qX3_readBracket σ x1 = some (r0, σ9) → va_P (dC, dI) vwCl (wG (cC cy ad τ) ad (182 + 6 * nb) σ) H → va_D A (wG (cC cy ad τ) ad (182 + 6 * nb) σ) → va_S A s.heap H locs → lv_has ls 6 [(0, .ref (ad 13)), (1, .int x1)] → W p l e (headSpec wsX3_readProduct ({ frames := 3 + (d + 1), cells := 0, slots := 0, locals := 65 + 25 * (d + 1) })).room s m (#[.ref (ad 13), .int a1]) below meth c H locs 0 0 (MQ below (va_Qi (fun (r : Int32) (_ : Unit) => r = r0) (fun (_ : Unit) t => wAt (dC, dI) A (wG (cC cy ad τ) ad (182 + 6 * nb) σ9) t) A) (#[.ref (ad 13), .int a1]) s 0 0 A) (F0 m 0 ls []) := by
    intro σ x1 H locs ls h hP hD hS hl
    unfold fX3_readProduct_0 at h
    refine lv_aload_n hx hb dX3_readProduct_0 rfl (lv_at hl 0 rfl) ?_
    refine lv_iload_n hx hb dX3_readProduct_1 rfl (lv_at hl 1 rfl) ?_
    obtain ⟨r11, σ12, hf13, h⟩ := bsS h
    refine ux_calli (va_runV (As := [.int x1]) (rest := []) ⟨hx, hb, hml, hown, hts⟩ (hqX3_readOperand σ x1 H.size r11 σ12 hf13) (cwV 1 hts gX3_readProduct_X3_readOperand rfl rfl rfl (by decide +kernel) ⟨by show (3 + d) + 1 ≤ 3 + (d + 1); omega, by show 8 + (4 + 11) + (65 + 25 * d) ≤ 65 + 25 * (d + 1); omega⟩) (wp_V hK hN hP hD (va_recv hK hP (ci := 3) (q0 := 13) rfl (wG_of (Nat.lt_of_lt_of_le (Nat.le_of_ble_eq_true rfl : 13 < 182) (Nat.le_add_right _ _)) (cC_13 _ _ _ _ _)))) rfl rfl hl.1 rfl (lv_room (Nat.le_of_ble_eq_true rfl)) dX3_readProduct_2 ⟨Nat.le_of_ble_eq_true rfl, Nat.le_of_ble_eq_true rfl⟩) hD hS hA (fun H locs hP hD hS => ?_)
    refine lv_istore_n (lv' := [(2, .int r11), (0, .ref (ad 13)), (1, .int x1)]) hx hb dX3_readProduct_5 rfl hl (by decide) rfl (fun ls hl => ?_)
    have hl := lv_sub hl [1, 2, 0] (l' := [(0, .ref (ad 13)), (1, .int x1), (2, .int r11)]) rfl
    refine lv_iconst (v := 0) hx hb dX3_readProduct_6 (by decide) ?_
    refine lv_istore_n (lv' := [(3, .int 0), (0, .ref (ad 13)), (1, .int x1), (2, .int r11)]) hx hb dX3_readProduct_7 rfl hl (by decide) rfl (fun ls hl => ?_)
    have hl := lv_sub hl [1, 2, 3, 0] (l' := [(0, .ref (ad 13)), (1, .int x1), (2, .int r11), (3, .int 0)]) rfl
    exact w8 FU σ12 x1 r11 0 H locs ls h hP hD hS hl
  intro H locs ls h hP hD hS hl
  exact w0 σ a1 H locs ls h hP hD hS (lv_sub hl [0, 1] rfl)

set_option maxHeartbeats 4000000 in
set_option maxRecDepth 100000 in
theorem uX3_readOperand (l : Launch) (dC : Nat → ClassId) (dI : Nat → Nat → Nat) (cy : Nat → ClassId) (ad : Nat → Nat) (d : Nat) (τ nb : Nat) (hτ : τ < nb) (qX3_readSum : S2 → Int32 → Option (Int32 × S2)) (hqX3_readSum : ∀ (σ : S2) (a1 : Int32) (sz : Nat) (r0 : Int32) (σ9 : S2), qX3_readSum σ a1 = some (r0, σ9) → Met l yX3_readSum wsX3_readSum ({ frames := 3 + d, cells := 0, slots := 0, locals := 65 + 25 * d }) (va_Pc [.ref (ad 13), .int a1] (wPre (dC, dI) cy (wG (cC cy ad τ) ad (182 + 6 * nb) σ) sz)) (va_Qi (fun (r : Int32) (_ : Unit) => r = r0) (fun (_ : Unit) t => wAt (dC, dI) (va_A (wG (cC cy ad τ) ad (182 + 6 * nb) σ) sz) (wG (cC cy ad τ) ad (182 + 6 * nb) σ9) t) (va_A (wG (cC cy ad τ) ad (182 + 6 * nb) σ) sz)) 0 0 (va_A (wG (cC cy ad τ) ad (182 + 6 * nb) σ) sz)) (qX3_readProduct : S2 → Int32 → Option (Int32 × S2)) (hqX3_readProduct : ∀ (σ : S2) (a1 : Int32) (sz : Nat) (r0 : Int32) (σ9 : S2), qX3_readProduct σ a1 = some (r0, σ9) → Met l yX3_readProduct wsX3_readProduct ({ frames := 3 + d, cells := 0, slots := 0, locals := 65 + 25 * d }) (va_Pc [.ref (ad 13), .int a1] (wPre (dC, dI) cy (wG (cC cy ad τ) ad (182 + 6 * nb) σ) sz)) (va_Qi (fun (r : Int32) (_ : Unit) => r = r0) (fun (_ : Unit) t => wAt (dC, dI) (va_A (wG (cC cy ad τ) ad (182 + 6 * nb) σ) sz) (wG (cC cy ad τ) ad (182 + 6 * nb) σ9) t) (va_A (wG (cC cy ad τ) ad (182 + 6 * nb) σ) sz)) 0 0 (va_A (wG (cC cy ad τ) ad (182 + 6 * nb) σ) sz)) (qX3_readOperand : S2 → Int32 → Option (Int32 × S2)) (hqX3_readOperand : ∀ (σ : S2) (a1 : Int32) (sz : Nat) (r0 : Int32) (σ9 : S2), qX3_readOperand σ a1 = some (r0, σ9) → Met l yX3_readOperand wsX3_readOperand ({ frames := 3 + d, cells := 0, slots := 0, locals := 65 + 25 * d }) (va_Pc [.ref (ad 13), .int a1] (wPre (dC, dI) cy (wG (cC cy ad τ) ad (182 + 6 * nb) σ) sz)) (va_Qi (fun (r : Int32) (_ : Unit) => r = r0) (fun (_ : Unit) t => wAt (dC, dI) (va_A (wG (cC cy ad τ) ad (182 + 6 * nb) σ) sz) (wG (cC cy ad τ) ad (182 + 6 * nb) σ9) t) (va_A (wG (cC cy ad τ) ad (182 + 6 * nb) σ) sz)) 0 0 (va_A (wG (cC cy ad τ) ad (182 + 6 * nb) σ) sz)) (qX3_readBracket : S2 → Int32 → Option (Int32 × S2)) (hqX3_readBracket : ∀ (σ : S2) (a1 : Int32) (sz : Nat) (r0 : Int32) (σ9 : S2), qX3_readBracket σ a1 = some (r0, σ9) → Met l yX3_readBracket wsX3_readBracket ({ frames := 3 + d, cells := 0, slots := 0, locals := 65 + 25 * d }) (va_Pc [.ref (ad 13), .int a1] (wPre (dC, dI) cy (wG (cC cy ad τ) ad (182 + 6 * nb) σ) sz)) (va_Qi (fun (r : Int32) (_ : Unit) => r = r0) (fun (_ : Unit) t => wAt (dC, dI) (va_A (wG (cC cy ad τ) ad (182 + 6 * nb) σ) sz) (wG (cC cy ad τ) ad (182 + 6 * nb) σ9) t) (va_A (wG (cC cy ad τ) ad (182 + 6 * nb) σ) sz)) 0 0 (va_A (wG (cC cy ad τ) ad (182 + 6 * nb) σ) sz)) (σ : S2) (a1 : Int32) (sz : Nat) (r0 : Int32) (σ9 : S2) (h : eX3_readOperand τ qX3_readSum qX3_readProduct qX3_readOperand qX3_readBracket σ a1 = some (r0, σ9)) : Met l yX3_readOperand wsX3_readOperand ({ frames := 3 + (d + 1), cells := 0, slots := 0, locals := 65 + 25 * (d + 1) }) (va_Pc [.ref (ad 13), .int a1] (wPre (dC, dI) cy (wG (cC cy ad τ) ad (182 + 6 * nb) σ) sz)) (va_Qi (fun (r : Int32) (_ : Unit) => r = r0) (fun (_ : Unit) t => wAt (dC, dI) (va_A (wG (cC cy ad τ) ad (182 + 6 * nb) σ) sz) (wG (cC cy ad τ) ad (182 + 6 * nb) σ9) t) (va_A (wG (cC cy ad τ) ad (182 + 6 * nb) σ) sz)) 0 0 (va_A (wG (cC cy ad τ) ad (182 + 6 * nb) σ) sz) := by
  refine Met.ofW (cc := cX3_readOperand) (maxL := 4) (ret := (some .int)) (by decide) rfl ?_
  intro p e s m args below meth c s₁ B hml hv
  obtain ⟨rfl, hsz, hP, hK, hD0, hN⟩ := hv
  have hx := B.exec
  have hb := B.bytes
  have hr := B.returns
  have hts := atoms_spec (ws := wsX3_readOperand) B.pre
  have hown : s.vm.findClass RX3 = some m.cls := findClass_of_methodNamed B.named
  have hlocks := B.notSynchronized
  subst hsz
  have hD := hD0.self (sz := s.heap.size)
  generalize hAe : va_A (wG (cC cy ad τ) ad (182 + 6 * nb) σ) s.heap.size = A at hD ⊢
  have hA : ∀ q : Nat, s.heap.size ≤ q → A q := fun q h => by rw [← hAe]; exact Or.inr h
  have hS : va_S A s.heap s.heap [] := va_S.rf
  have hl := lv_entry ([.ref (ad 13), .int a1]) (n := 4) (Nat.le_of_ble_eq_true rfl)
  rw [lg_entry_eq]
  generalize (lg_sl ([.ref (ad 13), .int a1]) ++ List.replicate (4 - (lg_sl ([.ref (ad 13), .int a1])).length) Slot.unset).toArray = ls at hl ⊢
  have hl : lv_has ls 4 [(0, .ref (ad 13)), (1, .int a1)] := hl
  unfold eX3_readOperand at h
  clear hAe hD0
  suffices HH : ∀ (H : Heap) (locs : List Loc) (ls : Array Slot), fX3_readOperand_0 τ qX3_readSum qX3_readProduct qX3_readOperand qX3_readBracket σ a1 = some (r0, σ9) → va_P (dC, dI) vwCl (wG (cC cy ad τ) ad (182 + 6 * nb) σ) H → va_D A (wG (cC cy ad τ) ad (182 + 6 * nb) σ) → va_S A s.heap H locs → lv_has ls 4 [(0, .ref (ad 13)), (1, .int a1)] → W p l e (headSpec wsX3_readOperand ({ frames := 3 + (d + 1), cells := 0, slots := 0, locals := 65 + 25 * (d + 1) })).room s m (#[.ref (ad 13), .int a1]) below meth c H locs 0 0 (MQ below (va_Qi (fun (r : Int32) (_ : Unit) => r = r0) (fun (_ : Unit) t => wAt (dC, dI) A (wG (cC cy ad τ) ad (182 + 6 * nb) σ9) t) A) (#[.ref (ad 13), .int a1]) s 0 0 A) (F0 m 0 ls []) from HH s.heap [] ls h hP hD hS hl
  have w122 : ∀ (σ : S2) (x3 : Int32) (H : Heap) (locs : List Loc) (ls : Array Slot), fX3_readOperand_122 τ qX3_readSum qX3_readProduct qX3_readOperand qX3_readBracket σ x3 = some (r0, σ9) → va_P (dC, dI) vwCl (wG (cC cy ad τ) ad (182 + 6 * nb) σ) H → va_D A (wG (cC cy ad τ) ad (182 + 6 * nb) σ) → va_S A s.heap H locs → lv_has ls 4 [(0, .ref (ad 13)), (3, .int x3)] → W p l e (headSpec wsX3_readOperand ({ frames := 3 + (d + 1), cells := 0, slots := 0, locals := 65 + 25 * (d + 1) })).room s m (#[.ref (ad 13), .int a1]) below meth c H locs 0 0 (MQ below (va_Qi (fun (r : Int32) (_ : Unit) => r = r0) (fun (_ : Unit) t => wAt (dC, dI) A (wG (cC cy ad τ) ad (182 + 6 * nb) σ9) t) A) (#[.ref (ad 13), .int a1]) s 0 0 A) (F0 m 122 ls []) := by
    intro σ x3 H locs ls h hP hD hS hl
    unfold fX3_readOperand_122 at h
    refine lv_aload_n hx hb dX3_readOperand_122 rfl (lv_at hl 0 rfl) ?_
    refine lv_dup hx hb dX3_readOperand_123 rfl ?_
    refine ux_get (D := (dC, dI)) (ci := 3) (v := .int (σ.1 13 2)) (C := RX3) (T := TX3) (M := 8) (fs := (oLW ad (σ.1 13))) hx hb hts (fun _ h9 => List.mem_cons_of_mem _ (List.mem_append_right _ h9)) hown hK hP 13 (Nat.lt_of_lt_of_le (Nat.le_of_ble_eq_true rfl : 13 < 182) (Nat.le_add_right _ _)) (cC_13 _ _ _ _ _) rfl 2 (by decide) (hts (.fieldLink RX3 19 "SeatsRound$Law" "at" "I") (List.mem_of_getElem? (i := 5) rfl)) (fun _ h9 => h9) rfl dX3_readOperand_124 ?_
    refine lv_iconst (v := 1) hx hb dX3_readOperand_127 (by decide) ?_
    refine lv_iadd hx hb dX3_readOperand_128 ?_
    refine ux_put (D := (dC, dI)) (ci := 3) (C := RX3) (T := TX3) (M := 8) (fs := (oLW ad (σ.1 13))) hx hb hts (fun _ h9 => List.mem_cons_of_mem _ (List.mem_append_right _ h9)) tyX3 tyX3_ok nmX3 hown hK hP hD hS 13 (Nat.lt_of_lt_of_le (Nat.le_of_ble_eq_true rfl : 13 < 182) (Nat.le_add_right _ _)) (cC_13 _ _ _ _ _) rfl 2 (by decide) (hts (.fieldLink RX3 19 "SeatsRound$Law" "at" "I") (List.mem_of_getElem? (i := 5) rfl)) (fun _ h9 => h9) rfl (tyX3_ok 2 (by decide)) rfl rfl (Nat.le_of_ble_eq_true rfl) (oC_13_2 _ _ _ _ _ _) h dX3_readOperand_129 (fun σ1 H locs h hP hD hS => ?_)
    refine lv_iload_n hx hb dX3_readOperand_132 rfl (lv_at hl 1 rfl) ?_
    exact ux_iret hx hb hr h hP hD hS hlocks dX3_readOperand_133
  have w34 : ∀ (σ : S2) (x2 : Int32) (H : Heap) (locs : List Loc) (ls : Array Slot), fX3_readOperand_34 τ qX3_readSum qX3_readProduct qX3_readOperand qX3_readBracket σ x2 = some (r0, σ9) → va_P (dC, dI) vwCl (wG (cC cy ad τ) ad (182 + 6 * nb) σ) H → va_D A (wG (cC cy ad τ) ad (182 + 6 * nb) σ) → va_S A s.heap H locs → lv_has ls 4 [(0, .ref (ad 13)), (2, .int x2)] → W p l e (headSpec wsX3_readOperand ({ frames := 3 + (d + 1), cells := 0, slots := 0, locals := 65 + 25 * (d + 1) })).room s m (#[.ref (ad 13), .int a1]) below meth c H locs 0 0 (MQ below (va_Qi (fun (r : Int32) (_ : Unit) => r = r0) (fun (_ : Unit) t => wAt (dC, dI) A (wG (cC cy ad τ) ad (182 + 6 * nb) σ9) t) A) (#[.ref (ad 13), .int a1]) s 0 0 A) (F0 m 34 ls []) := by
    intro σ x2 H locs ls h hP hD hS hl
    unfold fX3_readOperand_34 at h
    refine lv_iconst (v := 0) hx hb dX3_readOperand_34 (by decide) ?_
    refine lv_istore_n (lv' := [(3, .int 0), (0, .ref (ad 13)), (2, .int x2)]) hx hb dX3_readOperand_35 rfl hl (by decide) rfl (fun ls hl => ?_)
    have hl := lv_sub hl [1, 2, 0] (l' := [(0, .ref (ad 13)), (2, .int x2), (3, .int 0)]) rfl
    refine lv_iload_n hx hb dX3_readOperand_36 rfl (lv_at hl 1 rfl) ?_
    by_cases hcd2 : x2 = 110
    · have h := cdP hcd2 h
      refine lv_lookup (off := 43) (tgt := 80) hx hb dX3_readOperand_37 (by decide) (by rw [hcd2]; decide) (by decide) ?_
      refine lv_aload_n hx hb dX3_readOperand_80 rfl (lv_at hl 0 rfl) ?_
      refine ux_get (D := (dC, dI)) (ci := 3) (v := .int (σ.1 13 4)) (C := RX3) (T := TX3) (M := 8) (fs := (oLW ad (σ.1 13))) hx hb hts (fun _ h9 => List.mem_cons_of_mem _ (List.mem_append_right _ h9)) hown hK hP 13 (Nat.lt_of_lt_of_le (Nat.le_of_ble_eq_true rfl : 13 < 182) (Nat.le_add_right _ _)) (cC_13 _ _ _ _ _) rfl 4 (by decide) (hts (.fieldLink RX3 25 "SeatsRound$Law" "members" "I") (List.mem_of_getElem? (i := 1) rfl)) (fun _ h9 => h9) rfl dX3_readOperand_81 ?_
      refine lv_topi (fun v3 ev3 => ?_)
      have h := nmS h ev3
      refine lv_istore_n (lv' := [(3, .int v3), (0, .ref (ad 13)), (2, .int x2)]) hx hb dX3_readOperand_84 rfl hl (by decide) rfl (fun ls hl => ?_)
      have hl := lv_sub hl [1, 2, 0] (l' := [(0, .ref (ad 13)), (2, .int x2), (3, .int v3)]) rfl
      refine lv_goto (tgt := 122) hx hb dX3_readOperand_85 (by decide) ?_
      exact w122 σ v3 H locs ls h hP hD hS (lv_sub hl [0, 2] rfl)
    · have h := cdN hcd2 h
      by_cases hcd4 : x2 = 116
      · have h := cdP hcd4 h
        refine lv_lookup (off := 59) (tgt := 96) hx hb dX3_readOperand_37 (by decide) (by rw [hcd4]; decide) (by decide) ?_
        refine lv_aload_n hx hb dX3_readOperand_96 rfl (lv_at hl 0 rfl) ?_
        refine ux_get (D := (dC, dI)) (ci := 3) (v := .int (σ.1 13 6)) (C := RX3) (T := TX3) (M := 8) (fs := (oLW ad (σ.1 13))) hx hb hts (fun _ h9 => List.mem_cons_of_mem _ (List.mem_append_right _ h9)) hown hK hP 13 (Nat.lt_of_lt_of_le (Nat.le_of_ble_eq_true rfl : 13 < 182) (Nat.le_add_right _ _)) (cC_13 _ _ _ _ _) rfl 6 (by decide) (hts (.fieldLink RX3 31 "SeatsRound$Law" "weights" "I") (List.mem_of_getElem? (i := 3) rfl)) (fun _ h9 => h9) rfl dX3_readOperand_97 ?_
        refine lv_topi (fun v5 ev5 => ?_)
        have h := nmS h ev5
        refine lv_istore_n (lv' := [(3, .int v5), (0, .ref (ad 13)), (2, .int x2)]) hx hb dX3_readOperand_100 rfl hl (by decide) rfl (fun ls hl => ?_)
        have hl := lv_sub hl [1, 2, 0] (l' := [(0, .ref (ad 13)), (2, .int x2), (3, .int v5)]) rfl
        refine lv_goto (tgt := 122) hx hb dX3_readOperand_101 (by decide) ?_
        exact w122 σ v5 H locs ls h hP hD hS (lv_sub hl [0, 2] rfl)
      · have h := cdN hcd4 h
        by_cases hcd6 : x2 = 117
        · have h := cdP hcd6 h
          refine lv_lookup (off := 51) (tgt := 88) hx hb dX3_readOperand_37 (by decide) (by rw [hcd6]; decide) (by decide) ?_
          refine lv_aload_n hx hb dX3_readOperand_88 rfl (lv_at hl 0 rfl) ?_
          refine ux_get (D := (dC, dI)) (ci := 3) (v := .int (σ.1 13 5)) (C := RX3) (T := TX3) (M := 8) (fs := (oLW ad (σ.1 13))) hx hb hts (fun _ h9 => List.mem_cons_of_mem _ (List.mem_append_right _ h9)) hown hK hP 13 (Nat.lt_of_lt_of_le (Nat.le_of_ble_eq_true rfl : 13 < 182) (Nat.le_add_right _ _)) (cC_13 _ _ _ _ _) rfl 5 (by decide) (hts (.fieldLink RX3 28 "SeatsRound$Law" "streetsIn" "I") (List.mem_of_getElem? (i := 2) rfl)) (fun _ h9 => h9) rfl dX3_readOperand_89 ?_
          refine lv_topi (fun v7 ev7 => ?_)
          have h := nmS h ev7
          refine lv_istore_n (lv' := [(3, .int v7), (0, .ref (ad 13)), (2, .int x2)]) hx hb dX3_readOperand_92 rfl hl (by decide) rfl (fun ls hl => ?_)
          have hl := lv_sub hl [1, 2, 0] (l' := [(0, .ref (ad 13)), (2, .int x2), (3, .int v7)]) rfl
          refine lv_goto (tgt := 122) hx hb dX3_readOperand_93 (by decide) ?_
          exact w122 σ v7 H locs ls h hP hD hS (lv_sub hl [0, 2] rfl)
        · have h := cdN hcd6 h
          by_cases hcd8 : x2 = 120
          · have h := cdP hcd8 h
            refine lv_lookup (off := 67) (tgt := 104) hx hb dX3_readOperand_37 (by decide) (by rw [hcd8]; decide) (by decide) ?_
            refine lv_aload_n hx hb dX3_readOperand_104 rfl (lv_at hl 0 rfl) ?_
            refine ux_get (D := (dC, dI)) (ci := 3) (v := .int (σ.1 13 7)) (C := RX3) (T := TX3) (M := 8) (fs := (oLW ad (σ.1 13))) hx hb hts (fun _ h9 => List.mem_cons_of_mem _ (List.mem_append_right _ h9)) hown hK hP 13 (Nat.lt_of_lt_of_le (Nat.le_of_ble_eq_true rfl : 13 < 182) (Nat.le_add_right _ _)) (cC_13 _ _ _ _ _) rfl 7 (by decide) (hts (.fieldLink RX3 34 "SeatsRound$Law" "greatest" "I") (List.mem_of_getElem? (i := 4) rfl)) (fun _ h9 => h9) rfl dX3_readOperand_105 ?_
            refine lv_topi (fun v9 ev9 => ?_)
            have h := nmS h ev9
            refine lv_istore_n (lv' := [(3, .int v9), (0, .ref (ad 13)), (2, .int x2)]) hx hb dX3_readOperand_108 rfl hl (by decide) rfl (fun ls hl => ?_)
            have hl := lv_sub hl [1, 2, 0] (l' := [(0, .ref (ad 13)), (2, .int x2), (3, .int v9)]) rfl
            refine lv_goto (tgt := 122) hx hb dX3_readOperand_109 (by decide) ?_
            exact w122 σ v9 H locs ls h hP hD hS (lv_sub hl [0, 2] rfl)
          · have h := cdN hcd8 h
            refine lv_lookup (off := 75) (tgt := 112) hx hb dX3_readOperand_37 (by decide) ((lv_osw hcd2 (by decide)).trans ((lv_osw hcd4 (by decide)).trans ((lv_osw hcd6 (by decide)).trans ((lv_osw hcd8 (by decide)).trans rfl)))) (by decide) ?_
            refine lv_aload_n hx hb dX3_readOperand_112 rfl (lv_at hl 0 rfl) ?_
            refine lv_aload_n hx hb dX3_readOperand_113 rfl (lv_at hl 0 rfl) ?_
            refine ux_get (D := (dC, dI)) (ci := 3) (v := .int (σ.1 13 2)) (C := RX3) (T := TX3) (M := 8) (fs := (oLW ad (σ.1 13))) hx hb hts (fun _ h9 => List.mem_cons_of_mem _ (List.mem_append_right _ h9)) hown hK hP 13 (Nat.lt_of_lt_of_le (Nat.le_of_ble_eq_true rfl : 13 < 182) (Nat.le_add_right _ _)) (cC_13 _ _ _ _ _) rfl 2 (by decide) (hts (.fieldLink RX3 19 "SeatsRound$Law" "at" "I") (List.mem_of_getElem? (i := 5) rfl)) (fun _ h9 => h9) rfl dX3_readOperand_114 ?_
            refine ux_put (D := (dC, dI)) (ci := 3) (C := RX3) (T := TX3) (M := 8) (fs := (oLW ad (σ.1 13))) hx hb hts (fun _ h9 => List.mem_cons_of_mem _ (List.mem_append_right _ h9)) tyX3 tyX3_ok nmX3 hown hK hP hD hS 13 (Nat.lt_of_lt_of_le (Nat.le_of_ble_eq_true rfl : 13 < 182) (Nat.le_add_right _ _)) (cC_13 _ _ _ _ _) rfl 3 (by decide) (hts (.fieldLink RX3 22 "SeatsRound$Law" "fault" "I") (List.mem_of_getElem? (i := 6) rfl)) (fun _ h9 => h9) rfl (tyX3_ok 3 (by decide)) rfl rfl (Nat.le_of_ble_eq_true rfl) (oC_13_3 _ _ _ _ _ _) h dX3_readOperand_117 (fun σ10 H locs h hP hD hS => ?_)
            refine lv_iconst (v := 0) hx hb dX3_readOperand_120 (by decide) ?_
            exact ux_iret hx hb hr h hP hD hS hlocks dX3_readOperand_121
  have w0 : ∀ (σ : S2) (x1 : Int32) (H : Heap) (locs : List Loc) (ls : Array Slot), fX3_readOperand_0 τ qX3_readSum qX3_readProduct qX3_readOperand qX3_readBracket σ x1 = some (r0, σ9) → va_P (dC, dI) vwCl (wG (cC cy ad τ) ad (182 + 6 * nb) σ) H → va_D A (wG (cC cy ad τ) ad (182 + 6 * nb) σ) → va_S A s.heap H locs → lv_has ls 4 [(0, .ref (ad 13)), (1, .int x1)] → W p l e (headSpec wsX3_readOperand ({ frames := 3 + (d + 1), cells := 0, slots := 0, locals := 65 + 25 * (d + 1) })).room s m (#[.ref (ad 13), .int a1]) below meth c H locs 0 0 (MQ below (va_Qi (fun (r : Int32) (_ : Unit) => r = r0) (fun (_ : Unit) t => wAt (dC, dI) A (wG (cC cy ad τ) ad (182 + 6 * nb) σ9) t) A) (#[.ref (ad 13), .int a1]) s 0 0 A) (F0 m 0 ls []) := by
    intro σ x1 H locs ls h hP hD hS hl
    unfold fX3_readOperand_0 at h
    refine lv_aload_n hx hb dX3_readOperand_0 rfl (lv_at hl 0 rfl) ?_
    obtain ⟨r11, hf12, h⟩ := biS h
    refine ux_calli (va_runV (As := []) (rest := []) ⟨hx, hb, hml, hown, hts⟩ (tX3_sign l dC dI cy ad τ nb hτ σ H.size r11 hf12) (cwV 0 hts gX3_readOperand_X3_sign rfl rfl rfl (by decide +kernel) ⟨by show 1 + 1 ≤ 3 + (d + 1); omega, by show 8 + (1 + 11) + 23 ≤ 65 + 25 * (d + 1); omega⟩) (wp_V hK hN hP hD (va_recv hK hP (ci := 3) (q0 := 13) rfl (wG_of (Nat.lt_of_lt_of_le (Nat.le_of_ble_eq_true rfl : 13 < 182) (Nat.le_add_right _ _)) (cC_13 _ _ _ _ _)))) rfl rfl hl.1 rfl (lv_room (Nat.le_of_ble_eq_true rfl)) dX3_readOperand_1 ⟨Nat.le_of_ble_eq_true rfl, Nat.le_of_ble_eq_true rfl⟩) hD hS hA (fun H locs hP hD hS => ?_)
    refine lv_istore_n (lv' := [(2, .int r11), (0, .ref (ad 13)), (1, .int x1)]) hx hb dX3_readOperand_4 rfl hl (by decide) rfl (fun ls hl => ?_)
    have hl := lv_sub hl [1, 2, 0] (l' := [(0, .ref (ad 13)), (1, .int x1), (2, .int r11)]) rfl
    refine lv_iload_n hx hb dX3_readOperand_5 rfl (lv_at hl 2 rfl) ?_
    obtain ⟨r13, hf14, h⟩ := biS h
    refine ux_calli (va_runS (As := [.int r11]) (rest := []) ⟨hx, hb, hml, hown, hts⟩ (tX3_isDigit l dC dI cy ad τ nb hτ σ r11 H.size r13 hf14) (va_cwS 1 hts gX3_readOperand_X3_isDigit rfl rfl rfl (by decide +kernel) ⟨by show 1 + 1 ≤ 3 + (d + 1); omega, by show 8 + (1 + 11) + 23 ≤ 65 + 25 * (d + 1); omega⟩) (wp_S hK hN hP hD) rfl rfl hl.1 rfl (lv_room (Nat.le_of_ble_eq_true rfl)) dX3_readOperand_6 ⟨Nat.le_of_ble_eq_true rfl, Nat.le_of_ble_eq_true rfl⟩) hD hS hA (fun H locs hP hD hS => ?_)
    refine lv_if_eq (tgt := 17) hx hb dX3_readOperand_9 (by decide) (fun hcd => ?_) (fun hcd => ?_)
    · have h := cdP hcd h
      refine lv_iload_n hx hb dX3_readOperand_17 rfl (lv_at hl 2 rfl) ?_
      refine lv_bipush (v := 40) hx hb dX3_readOperand_18 (by decide) ?_
      refine lv_icmp_ne (tgt := 34) hx hb dX3_readOperand_20 (by decide) (fun hcd => ?_) (fun hcd => ?_)
      · have h := cdN hcd h
        exact w34 σ r11 H locs ls h hP hD hS (lv_sub hl [0, 2] rfl)
      · have h := cdP hcd h
        refine lv_iload_n hx hb dX3_readOperand_23 rfl (lv_at hl 1 rfl) ?_
        refine lv_iconst (v := 4) hx hb dX3_readOperand_24 (by decide) ?_
        refine lv_icmp_ge (tgt := 34) hx hb dX3_readOperand_25 (by decide) (fun hcd => ?_) (fun hcd => ?_)
        · have h := cdP hcd h
          exact w34 σ r11 H locs ls h hP hD hS (lv_sub hl [0, 2] rfl)
        · have h := cdN hcd h
          refine lv_aload_n hx hb dX3_readOperand_28 rfl (lv_at hl 0 rfl) ?_
          refine lv_iload_n hx hb dX3_readOperand_29 rfl (lv_at hl 1 rfl) ?_
          obtain ⟨r15, σ16, hf17, h⟩ := bsS h
          refine ux_calli (va_runV (As := [.int x1]) (rest := []) ⟨hx, hb, hml, hown, hts⟩ (hqX3_readBracket σ x1 H.size r15 σ16 hf17) (cwV 1 hts gX3_readOperand_X3_readBracket rfl rfl rfl (by decide +kernel) ⟨by show (3 + d) + 1 ≤ 3 + (d + 1); omega, by show 8 + (3 + 11) + (65 + 25 * d) ≤ 65 + 25 * (d + 1); omega⟩) (wp_V hK hN hP hD (va_recv hK hP (ci := 3) (q0 := 13) rfl (wG_of (Nat.lt_of_lt_of_le (Nat.le_of_ble_eq_true rfl : 13 < 182) (Nat.le_add_right _ _)) (cC_13 _ _ _ _ _)))) rfl rfl hl.1 rfl (lv_room (Nat.le_of_ble_eq_true rfl)) dX3_readOperand_30 ⟨Nat.le_of_ble_eq_true rfl, Nat.le_of_ble_eq_true rfl⟩) hD hS hA (fun H locs hP hD hS => ?_)
          exact ux_iret hx hb hr h hP hD hS hlocks dX3_readOperand_33
    · have h := cdN hcd h
      refine lv_aload_n hx hb dX3_readOperand_12 rfl (lv_at hl 0 rfl) ?_
      obtain ⟨r18, σ19, hf20, h⟩ := bsS h
      refine ux_calli (va_runV (As := []) (rest := []) ⟨hx, hb, hml, hown, hts⟩ (tX3_readNumber l dC dI cy ad τ nb hτ σ H.size r18 σ19 hf20) (cwV 0 hts gX3_readOperand_X3_readNumber rfl rfl rfl (by decide +kernel) ⟨by show 2 + 1 ≤ 3 + (d + 1); omega, by show 8 + (3 + 11) + 43 ≤ 65 + 25 * (d + 1); omega⟩) (wp_V hK hN hP hD (va_recv hK hP (ci := 3) (q0 := 13) rfl (wG_of (Nat.lt_of_lt_of_le (Nat.le_of_ble_eq_true rfl : 13 < 182) (Nat.le_add_right _ _)) (cC_13 _ _ _ _ _)))) rfl rfl hl.1 rfl (lv_room (Nat.le_of_ble_eq_true rfl)) dX3_readOperand_13 ⟨Nat.le_of_ble_eq_true rfl, Nat.le_of_ble_eq_true rfl⟩) hD hS hA (fun H locs hP hD hS => ?_)
      exact ux_iret hx hb hr h hP hD hS hlocks dX3_readOperand_16
  intro H locs ls h hP hD hS hl
  exact w0 σ a1 H locs ls h hP hD hS (lv_sub hl [0, 1] rfl)

set_option maxHeartbeats 4000000 in
set_option maxRecDepth 100000 in
theorem uX3_readBracket (l : Launch) (dC : Nat → ClassId) (dI : Nat → Nat → Nat) (cy : Nat → ClassId) (ad : Nat → Nat) (d : Nat) (τ nb : Nat) (hτ : τ < nb) (qX3_readSum : S2 → Int32 → Option (Int32 × S2)) (hqX3_readSum : ∀ (σ : S2) (a1 : Int32) (sz : Nat) (r0 : Int32) (σ9 : S2), qX3_readSum σ a1 = some (r0, σ9) → Met l yX3_readSum wsX3_readSum ({ frames := 3 + d, cells := 0, slots := 0, locals := 65 + 25 * d }) (va_Pc [.ref (ad 13), .int a1] (wPre (dC, dI) cy (wG (cC cy ad τ) ad (182 + 6 * nb) σ) sz)) (va_Qi (fun (r : Int32) (_ : Unit) => r = r0) (fun (_ : Unit) t => wAt (dC, dI) (va_A (wG (cC cy ad τ) ad (182 + 6 * nb) σ) sz) (wG (cC cy ad τ) ad (182 + 6 * nb) σ9) t) (va_A (wG (cC cy ad τ) ad (182 + 6 * nb) σ) sz)) 0 0 (va_A (wG (cC cy ad τ) ad (182 + 6 * nb) σ) sz)) (qX3_readProduct : S2 → Int32 → Option (Int32 × S2)) (hqX3_readProduct : ∀ (σ : S2) (a1 : Int32) (sz : Nat) (r0 : Int32) (σ9 : S2), qX3_readProduct σ a1 = some (r0, σ9) → Met l yX3_readProduct wsX3_readProduct ({ frames := 3 + d, cells := 0, slots := 0, locals := 65 + 25 * d }) (va_Pc [.ref (ad 13), .int a1] (wPre (dC, dI) cy (wG (cC cy ad τ) ad (182 + 6 * nb) σ) sz)) (va_Qi (fun (r : Int32) (_ : Unit) => r = r0) (fun (_ : Unit) t => wAt (dC, dI) (va_A (wG (cC cy ad τ) ad (182 + 6 * nb) σ) sz) (wG (cC cy ad τ) ad (182 + 6 * nb) σ9) t) (va_A (wG (cC cy ad τ) ad (182 + 6 * nb) σ) sz)) 0 0 (va_A (wG (cC cy ad τ) ad (182 + 6 * nb) σ) sz)) (qX3_readOperand : S2 → Int32 → Option (Int32 × S2)) (hqX3_readOperand : ∀ (σ : S2) (a1 : Int32) (sz : Nat) (r0 : Int32) (σ9 : S2), qX3_readOperand σ a1 = some (r0, σ9) → Met l yX3_readOperand wsX3_readOperand ({ frames := 3 + d, cells := 0, slots := 0, locals := 65 + 25 * d }) (va_Pc [.ref (ad 13), .int a1] (wPre (dC, dI) cy (wG (cC cy ad τ) ad (182 + 6 * nb) σ) sz)) (va_Qi (fun (r : Int32) (_ : Unit) => r = r0) (fun (_ : Unit) t => wAt (dC, dI) (va_A (wG (cC cy ad τ) ad (182 + 6 * nb) σ) sz) (wG (cC cy ad τ) ad (182 + 6 * nb) σ9) t) (va_A (wG (cC cy ad τ) ad (182 + 6 * nb) σ) sz)) 0 0 (va_A (wG (cC cy ad τ) ad (182 + 6 * nb) σ) sz)) (qX3_readBracket : S2 → Int32 → Option (Int32 × S2)) (hqX3_readBracket : ∀ (σ : S2) (a1 : Int32) (sz : Nat) (r0 : Int32) (σ9 : S2), qX3_readBracket σ a1 = some (r0, σ9) → Met l yX3_readBracket wsX3_readBracket ({ frames := 3 + d, cells := 0, slots := 0, locals := 65 + 25 * d }) (va_Pc [.ref (ad 13), .int a1] (wPre (dC, dI) cy (wG (cC cy ad τ) ad (182 + 6 * nb) σ) sz)) (va_Qi (fun (r : Int32) (_ : Unit) => r = r0) (fun (_ : Unit) t => wAt (dC, dI) (va_A (wG (cC cy ad τ) ad (182 + 6 * nb) σ) sz) (wG (cC cy ad τ) ad (182 + 6 * nb) σ9) t) (va_A (wG (cC cy ad τ) ad (182 + 6 * nb) σ) sz)) 0 0 (va_A (wG (cC cy ad τ) ad (182 + 6 * nb) σ) sz)) (σ : S2) (a1 : Int32) (sz : Nat) (r0 : Int32) (σ9 : S2) (h : eX3_readBracket τ qX3_readSum qX3_readProduct qX3_readOperand qX3_readBracket σ a1 = some (r0, σ9)) : Met l yX3_readBracket wsX3_readBracket ({ frames := 3 + (d + 1), cells := 0, slots := 0, locals := 65 + 25 * (d + 1) }) (va_Pc [.ref (ad 13), .int a1] (wPre (dC, dI) cy (wG (cC cy ad τ) ad (182 + 6 * nb) σ) sz)) (va_Qi (fun (r : Int32) (_ : Unit) => r = r0) (fun (_ : Unit) t => wAt (dC, dI) (va_A (wG (cC cy ad τ) ad (182 + 6 * nb) σ) sz) (wG (cC cy ad τ) ad (182 + 6 * nb) σ9) t) (va_A (wG (cC cy ad τ) ad (182 + 6 * nb) σ) sz)) 0 0 (va_A (wG (cC cy ad τ) ad (182 + 6 * nb) σ) sz) := by
  refine Met.ofW (cc := cX3_readBracket) (maxL := 3) (ret := (some .int)) (by decide) rfl ?_
  intro p e s m args below meth c s₁ B hml hv
  obtain ⟨rfl, hsz, hP, hK, hD0, hN⟩ := hv
  have hx := B.exec
  have hb := B.bytes
  have hr := B.returns
  have hts := atoms_spec (ws := wsX3_readBracket) B.pre
  have hown : s.vm.findClass RX3 = some m.cls := findClass_of_methodNamed B.named
  have hlocks := B.notSynchronized
  subst hsz
  have hD := hD0.self (sz := s.heap.size)
  generalize hAe : va_A (wG (cC cy ad τ) ad (182 + 6 * nb) σ) s.heap.size = A at hD ⊢
  have hA : ∀ q : Nat, s.heap.size ≤ q → A q := fun q h => by rw [← hAe]; exact Or.inr h
  have hS : va_S A s.heap s.heap [] := va_S.rf
  have hl := lv_entry ([.ref (ad 13), .int a1]) (n := 3) (Nat.le_of_ble_eq_true rfl)
  rw [lg_entry_eq]
  generalize (lg_sl ([.ref (ad 13), .int a1]) ++ List.replicate (3 - (lg_sl ([.ref (ad 13), .int a1])).length) Slot.unset).toArray = ls at hl ⊢
  have hl : lv_has ls 3 [(0, .ref (ad 13)), (1, .int a1)] := hl
  unfold eX3_readBracket at h
  clear hAe hD0
  suffices HH : ∀ (H : Heap) (locs : List Loc) (ls : Array Slot), fX3_readBracket_0 τ qX3_readSum qX3_readProduct qX3_readOperand qX3_readBracket σ a1 = some (r0, σ9) → va_P (dC, dI) vwCl (wG (cC cy ad τ) ad (182 + 6 * nb) σ) H → va_D A (wG (cC cy ad τ) ad (182 + 6 * nb) σ) → va_S A s.heap H locs → lv_has ls 3 [(0, .ref (ad 13)), (1, .int a1)] → W p l e (headSpec wsX3_readBracket ({ frames := 3 + (d + 1), cells := 0, slots := 0, locals := 65 + 25 * (d + 1) })).room s m (#[.ref (ad 13), .int a1]) below meth c H locs 0 0 (MQ below (va_Qi (fun (r : Int32) (_ : Unit) => r = r0) (fun (_ : Unit) t => wAt (dC, dI) A (wG (cC cy ad τ) ad (182 + 6 * nb) σ9) t) A) (#[.ref (ad 13), .int a1]) s 0 0 A) (F0 m 0 ls []) from HH s.heap [] ls h hP hD hS hl
  have w0 : ∀ (σ : S2) (x1 : Int32) (H : Heap) (locs : List Loc) (ls : Array Slot), fX3_readBracket_0 τ qX3_readSum qX3_readProduct qX3_readOperand qX3_readBracket σ x1 = some (r0, σ9) → va_P (dC, dI) vwCl (wG (cC cy ad τ) ad (182 + 6 * nb) σ) H → va_D A (wG (cC cy ad τ) ad (182 + 6 * nb) σ) → va_S A s.heap H locs → lv_has ls 3 [(0, .ref (ad 13)), (1, .int x1)] → W p l e (headSpec wsX3_readBracket ({ frames := 3 + (d + 1), cells := 0, slots := 0, locals := 65 + 25 * (d + 1) })).room s m (#[.ref (ad 13), .int a1]) below meth c H locs 0 0 (MQ below (va_Qi (fun (r : Int32) (_ : Unit) => r = r0) (fun (_ : Unit) t => wAt (dC, dI) A (wG (cC cy ad τ) ad (182 + 6 * nb) σ9) t) A) (#[.ref (ad 13), .int a1]) s 0 0 A) (F0 m 0 ls []) := by
    intro σ x1 H locs ls h hP hD hS hl
    unfold fX3_readBracket_0 at h
    refine lv_aload_n hx hb dX3_readBracket_0 rfl (lv_at hl 0 rfl) ?_
    refine lv_dup hx hb dX3_readBracket_1 rfl ?_
    refine ux_get (D := (dC, dI)) (ci := 3) (v := .int (σ.1 13 2)) (C := RX3) (T := TX3) (M := 8) (fs := (oLW ad (σ.1 13))) hx hb hts (fun _ h9 => List.mem_cons_of_mem _ (List.mem_append_right _ h9)) hown hK hP 13 (Nat.lt_of_lt_of_le (Nat.le_of_ble_eq_true rfl : 13 < 182) (Nat.le_add_right _ _)) (cC_13 _ _ _ _ _) rfl 2 (by decide) (hts (.fieldLink RX3 19 "SeatsRound$Law" "at" "I") (List.mem_of_getElem? (i := 1) rfl)) (fun _ h9 => h9) rfl dX3_readBracket_2 ?_
    refine lv_iconst (v := 1) hx hb dX3_readBracket_5 (by decide) ?_
    refine lv_iadd hx hb dX3_readBracket_6 ?_
    refine ux_put (D := (dC, dI)) (ci := 3) (C := RX3) (T := TX3) (M := 8) (fs := (oLW ad (σ.1 13))) hx hb hts (fun _ h9 => List.mem_cons_of_mem _ (List.mem_append_right _ h9)) tyX3 tyX3_ok nmX3 hown hK hP hD hS 13 (Nat.lt_of_lt_of_le (Nat.le_of_ble_eq_true rfl : 13 < 182) (Nat.le_add_right _ _)) (cC_13 _ _ _ _ _) rfl 2 (by decide) (hts (.fieldLink RX3 19 "SeatsRound$Law" "at" "I") (List.mem_of_getElem? (i := 1) rfl)) (fun _ h9 => h9) rfl (tyX3_ok 2 (by decide)) rfl rfl (Nat.le_of_ble_eq_true rfl) (oC_13_2 _ _ _ _ _ _) h dX3_readBracket_7 (fun σ1 H locs h hP hD hS => ?_)
    refine lv_aload_n hx hb dX3_readBracket_10 rfl (lv_at hl 0 rfl) ?_
    refine lv_iload_n hx hb dX3_readBracket_11 rfl (lv_at hl 1 rfl) ?_
    refine lv_iconst (v := 1) hx hb dX3_readBracket_12 (by decide) ?_
    refine lv_iadd hx hb dX3_readBracket_13 ?_
    obtain ⟨r2, σ3, hf4, h⟩ := bsS h
    refine ux_calli (va_runV (As := [.int (x1 + 1)]) (rest := []) ⟨hx, hb, hml, hown, hts⟩ (hqX3_readSum σ1 (x1 + 1) H.size r2 σ3 hf4) (cwV 1 hts gX3_readBracket_X3_readSum rfl rfl rfl (by decide +kernel) ⟨by show (3 + d) + 1 ≤ 3 + (d + 1); omega, by show 8 + (6 + 11) + (65 + 25 * d) ≤ 65 + 25 * (d + 1); omega⟩) (wp_V hK hN hP hD (va_recv hK hP (ci := 3) (q0 := 13) rfl (wG_of (Nat.lt_of_lt_of_le (Nat.le_of_ble_eq_true rfl : 13 < 182) (Nat.le_add_right _ _)) (cC_13 _ _ _ _ _)))) rfl rfl hl.1 rfl (lv_room (Nat.le_of_ble_eq_true rfl)) dX3_readBracket_14 ⟨Nat.le_of_ble_eq_true rfl, Nat.le_of_ble_eq_true rfl⟩) hD hS hA (fun H locs hP hD hS => ?_)
    refine lv_istore_n (lv' := [(2, .int r2), (0, .ref (ad 13)), (1, .int x1)]) hx hb dX3_readBracket_17 rfl hl (by decide) rfl (fun ls hl => ?_)
    have hl := lv_sub hl [1, 2, 0] (l' := [(0, .ref (ad 13)), (1, .int x1), (2, .int r2)]) rfl
    refine lv_aload_n hx hb dX3_readBracket_18 rfl (lv_at hl 0 rfl) ?_
    refine ux_get (D := (dC, dI)) (ci := 3) (v := .int (σ3.1 13 3)) (C := RX3) (T := TX3) (M := 8) (fs := (oLW ad (σ3.1 13))) hx hb hts (fun _ h9 => List.mem_cons_of_mem _ (List.mem_append_right _ h9)) hown hK hP 13 (Nat.lt_of_lt_of_le (Nat.le_of_ble_eq_true rfl : 13 < 182) (Nat.le_add_right _ _)) (cC_13 _ _ _ _ _) rfl 3 (by decide) (hts (.fieldLink RX3 22 "SeatsRound$Law" "fault" "I") (List.mem_of_getElem? (i := 2) rfl)) (fun _ h9 => h9) rfl dX3_readBracket_19 ?_
    refine lv_iconst (v := (-1)) hx hb dX3_readBracket_22 (by decide) ?_
    refine lv_icmp_eq (tgt := 28) hx hb dX3_readBracket_23 (by decide) (fun hcd => ?_) (fun hcd => ?_)
    · have h := cdP hcd h
      refine lv_aload_n hx hb dX3_readBracket_28 rfl (lv_at hl 0 rfl) ?_
      obtain ⟨r5, hf6, h⟩ := biS h
      refine ux_calli (va_runV (As := []) (rest := []) ⟨hx, hb, hml, hown, hts⟩ (tX3_sign l dC dI cy ad τ nb hτ σ3 H.size r5 hf6) (cwV 0 hts gX3_readBracket_X3_sign rfl rfl rfl (by decide +kernel) ⟨by show 1 + 1 ≤ 3 + (d + 1); omega, by show 8 + (1 + 11) + 23 ≤ 65 + 25 * (d + 1); omega⟩) (wp_V hK hN hP hD (va_recv hK hP (ci := 3) (q0 := 13) rfl (wG_of (Nat.lt_of_lt_of_le (Nat.le_of_ble_eq_true rfl : 13 < 182) (Nat.le_add_right _ _)) (cC_13 _ _ _ _ _)))) rfl rfl hl.1 rfl (lv_room (Nat.le_of_ble_eq_true rfl)) dX3_readBracket_29 ⟨Nat.le_of_ble_eq_true rfl, Nat.le_of_ble_eq_true rfl⟩) hD hS hA (fun H locs hP hD hS => ?_)
      refine lv_bipush (v := 41) hx hb dX3_readBracket_32 (by decide) ?_
      refine lv_icmp_ne (tgt := 50) hx hb dX3_readBracket_34 (by decide) (fun hcd => ?_) (fun hcd => ?_)
      · have h := cdN hcd h
        refine lv_aload_n hx hb dX3_readBracket_50 rfl (lv_at hl 0 rfl) ?_
        refine lv_aload_n hx hb dX3_readBracket_51 rfl (lv_at hl 0 rfl) ?_
        refine ux_get (D := (dC, dI)) (ci := 3) (v := .int (σ3.1 13 2)) (C := RX3) (T := TX3) (M := 8) (fs := (oLW ad (σ3.1 13))) hx hb hts (fun _ h9 => List.mem_cons_of_mem _ (List.mem_append_right _ h9)) hown hK hP 13 (Nat.lt_of_lt_of_le (Nat.le_of_ble_eq_true rfl : 13 < 182) (Nat.le_add_right _ _)) (cC_13 _ _ _ _ _) rfl 2 (by decide) (hts (.fieldLink RX3 19 "SeatsRound$Law" "at" "I") (List.mem_of_getElem? (i := 1) rfl)) (fun _ h9 => h9) rfl dX3_readBracket_52 ?_
        refine ux_put (D := (dC, dI)) (ci := 3) (C := RX3) (T := TX3) (M := 8) (fs := (oLW ad (σ3.1 13))) hx hb hts (fun _ h9 => List.mem_cons_of_mem _ (List.mem_append_right _ h9)) tyX3 tyX3_ok nmX3 hown hK hP hD hS 13 (Nat.lt_of_lt_of_le (Nat.le_of_ble_eq_true rfl : 13 < 182) (Nat.le_add_right _ _)) (cC_13 _ _ _ _ _) rfl 3 (by decide) (hts (.fieldLink RX3 22 "SeatsRound$Law" "fault" "I") (List.mem_of_getElem? (i := 2) rfl)) (fun _ h9 => h9) rfl (tyX3_ok 3 (by decide)) rfl rfl (Nat.le_of_ble_eq_true rfl) (oC_13_3 _ _ _ _ _ _) h dX3_readBracket_55 (fun σ7 H locs h hP hD hS => ?_)
        refine lv_iload_n hx hb dX3_readBracket_58 rfl (lv_at hl 2 rfl) ?_
        exact ux_iret hx hb hr h hP hD hS hlocks dX3_readBracket_59
      · have h := cdP hcd h
        refine lv_aload_n hx hb dX3_readBracket_37 rfl (lv_at hl 0 rfl) ?_
        refine lv_dup hx hb dX3_readBracket_38 rfl ?_
        refine ux_get (D := (dC, dI)) (ci := 3) (v := .int (σ3.1 13 2)) (C := RX3) (T := TX3) (M := 8) (fs := (oLW ad (σ3.1 13))) hx hb hts (fun _ h9 => List.mem_cons_of_mem _ (List.mem_append_right _ h9)) hown hK hP 13 (Nat.lt_of_lt_of_le (Nat.le_of_ble_eq_true rfl : 13 < 182) (Nat.le_add_right _ _)) (cC_13 _ _ _ _ _) rfl 2 (by decide) (hts (.fieldLink RX3 19 "SeatsRound$Law" "at" "I") (List.mem_of_getElem? (i := 1) rfl)) (fun _ h9 => h9) rfl dX3_readBracket_39 ?_
        refine lv_iconst (v := 1) hx hb dX3_readBracket_42 (by decide) ?_
        refine lv_iadd hx hb dX3_readBracket_43 ?_
        refine ux_put (D := (dC, dI)) (ci := 3) (C := RX3) (T := TX3) (M := 8) (fs := (oLW ad (σ3.1 13))) hx hb hts (fun _ h9 => List.mem_cons_of_mem _ (List.mem_append_right _ h9)) tyX3 tyX3_ok nmX3 hown hK hP hD hS 13 (Nat.lt_of_lt_of_le (Nat.le_of_ble_eq_true rfl : 13 < 182) (Nat.le_add_right _ _)) (cC_13 _ _ _ _ _) rfl 2 (by decide) (hts (.fieldLink RX3 19 "SeatsRound$Law" "at" "I") (List.mem_of_getElem? (i := 1) rfl)) (fun _ h9 => h9) rfl (tyX3_ok 2 (by decide)) rfl rfl (Nat.le_of_ble_eq_true rfl) (oC_13_2 _ _ _ _ _ _) h dX3_readBracket_44 (fun σ8 H locs h hP hD hS => ?_)
        refine lv_goto (tgt := 58) hx hb dX3_readBracket_47 (by decide) ?_
        refine lv_iload_n hx hb dX3_readBracket_58 rfl (lv_at hl 2 rfl) ?_
        exact ux_iret hx hb hr h hP hD hS hlocks dX3_readBracket_59
    · have h := cdN hcd h
      refine lv_iconst (v := 0) hx hb dX3_readBracket_26 (by decide) ?_
      exact ux_iret hx hb hr h hP hD hS hlocks dX3_readBracket_27
  intro H locs ls h hP hD hS hl
  exact w0 σ a1 H locs ls h hP hD hS (lv_sub hl [0, 1] rfl)

set_option maxRecDepth 100000 in
theorem gGX3_readSum (l : Launch) (dC : Nat → ClassId) (dI : Nat → Nat → Nat) (cy : Nat → ClassId) (ad : Nat → Nat) (τ nb : Nat) (hτ : τ < nb) (d : Nat) : (∀ (σ : S2) (a1 : Int32) (sz : Nat) (r0 : Int32) (σ9 : S2), GX3_readSum τ d 0 σ a1 = some (r0, σ9) → Met l yX3_readSum wsX3_readSum ({ frames := 3 + d, cells := 0, slots := 0, locals := 65 + 25 * d }) (va_Pc [.ref (ad 13), .int a1] (wPre (dC, dI) cy (wG (cC cy ad τ) ad (182 + 6 * nb) σ) sz)) (va_Qi (fun (r : Int32) (_ : Unit) => r = r0) (fun (_ : Unit) t => wAt (dC, dI) (va_A (wG (cC cy ad τ) ad (182 + 6 * nb) σ) sz) (wG (cC cy ad τ) ad (182 + 6 * nb) σ9) t) (va_A (wG (cC cy ad τ) ad (182 + 6 * nb) σ) sz)) 0 0 (va_A (wG (cC cy ad τ) ad (182 + 6 * nb) σ) sz)) ∧ (∀ (σ : S2) (a1 : Int32) (sz : Nat) (r0 : Int32) (σ9 : S2), GX3_readSum τ d 1 σ a1 = some (r0, σ9) → Met l yX3_readProduct wsX3_readProduct ({ frames := 3 + d, cells := 0, slots := 0, locals := 65 + 25 * d }) (va_Pc [.ref (ad 13), .int a1] (wPre (dC, dI) cy (wG (cC cy ad τ) ad (182 + 6 * nb) σ) sz)) (va_Qi (fun (r : Int32) (_ : Unit) => r = r0) (fun (_ : Unit) t => wAt (dC, dI) (va_A (wG (cC cy ad τ) ad (182 + 6 * nb) σ) sz) (wG (cC cy ad τ) ad (182 + 6 * nb) σ9) t) (va_A (wG (cC cy ad τ) ad (182 + 6 * nb) σ) sz)) 0 0 (va_A (wG (cC cy ad τ) ad (182 + 6 * nb) σ) sz)) ∧ (∀ (σ : S2) (a1 : Int32) (sz : Nat) (r0 : Int32) (σ9 : S2), GX3_readSum τ d 2 σ a1 = some (r0, σ9) → Met l yX3_readOperand wsX3_readOperand ({ frames := 3 + d, cells := 0, slots := 0, locals := 65 + 25 * d }) (va_Pc [.ref (ad 13), .int a1] (wPre (dC, dI) cy (wG (cC cy ad τ) ad (182 + 6 * nb) σ) sz)) (va_Qi (fun (r : Int32) (_ : Unit) => r = r0) (fun (_ : Unit) t => wAt (dC, dI) (va_A (wG (cC cy ad τ) ad (182 + 6 * nb) σ) sz) (wG (cC cy ad τ) ad (182 + 6 * nb) σ9) t) (va_A (wG (cC cy ad τ) ad (182 + 6 * nb) σ) sz)) 0 0 (va_A (wG (cC cy ad τ) ad (182 + 6 * nb) σ) sz)) ∧ (∀ (σ : S2) (a1 : Int32) (sz : Nat) (r0 : Int32) (σ9 : S2), GX3_readSum τ d 3 σ a1 = some (r0, σ9) → Met l yX3_readBracket wsX3_readBracket ({ frames := 3 + d, cells := 0, slots := 0, locals := 65 + 25 * d }) (va_Pc [.ref (ad 13), .int a1] (wPre (dC, dI) cy (wG (cC cy ad τ) ad (182 + 6 * nb) σ) sz)) (va_Qi (fun (r : Int32) (_ : Unit) => r = r0) (fun (_ : Unit) t => wAt (dC, dI) (va_A (wG (cC cy ad τ) ad (182 + 6 * nb) σ) sz) (wG (cC cy ad τ) ad (182 + 6 * nb) σ9) t) (va_A (wG (cC cy ad τ) ad (182 + 6 * nb) σ) sz)) 0 0 (va_A (wG (cC cy ad τ) ad (182 + 6 * nb) σ) sz)) := by
  induction d with
  | zero => exact ⟨by intros; contradiction, by intros; contradiction, by intros; contradiction, by intros; contradiction⟩
  | succ d ih =>
    exact ⟨(fun σ a1 sz r0 σ9 h => uX3_readSum l dC dI cy ad d τ nb hτ _ (ih.1) _ (ih.2.1) _ (ih.2.2.1) _ (ih.2.2.2) σ a1 sz r0 σ9 h), (fun σ a1 sz r0 σ9 h => uX3_readProduct l dC dI cy ad d τ nb hτ _ (ih.1) _ (ih.2.1) _ (ih.2.2.1) _ (ih.2.2.2) σ a1 sz r0 σ9 h), (fun σ a1 sz r0 σ9 h => uX3_readOperand l dC dI cy ad d τ nb hτ _ (ih.1) _ (ih.2.1) _ (ih.2.2.1) _ (ih.2.2.2) σ a1 sz r0 σ9 h), (fun σ a1 sz r0 σ9 h => uX3_readBracket l dC dI cy ad d τ nb hτ _ (ih.1) _ (ih.2.1) _ (ih.2.2.1) _ (ih.2.2.2) σ a1 sz r0 σ9 h)⟩

theorem tX3_readSum (l : Launch) (dC : Nat → ClassId) (dI : Nat → Nat → Nat) (cy : Nat → ClassId) (ad : Nat → Nat) (τ nb : Nat) (hτ : τ < nb) : ∀ (σ : S2) (a1 : Int32) (sz : Nat) (r0 : Int32) (σ9 : S2), fX3_readSum τ σ a1 = some (r0, σ9) → Met l yX3_readSum wsX3_readSum ({ frames := 27, cells := 0, slots := 0, locals := 665 }) (va_Pc [.ref (ad 13), .int a1] (wPre (dC, dI) cy (wG (cC cy ad τ) ad (182 + 6 * nb) σ) sz)) (va_Qi (fun (r : Int32) (_ : Unit) => r = r0) (fun (_ : Unit) t => wAt (dC, dI) (va_A (wG (cC cy ad τ) ad (182 + 6 * nb) σ) sz) (wG (cC cy ad τ) ad (182 + 6 * nb) σ9) t) (va_A (wG (cC cy ad τ) ad (182 + 6 * nb) σ) sz)) 0 0 (va_A (wG (cC cy ad τ) ad (182 + 6 * nb) σ) sz) := (gGX3_readSum l dC dI cy ad τ nb hτ 24).1

theorem tX3_readProduct (l : Launch) (dC : Nat → ClassId) (dI : Nat → Nat → Nat) (cy : Nat → ClassId) (ad : Nat → Nat) (τ nb : Nat) (hτ : τ < nb) : ∀ (σ : S2) (a1 : Int32) (sz : Nat) (r0 : Int32) (σ9 : S2), fX3_readProduct τ σ a1 = some (r0, σ9) → Met l yX3_readProduct wsX3_readProduct ({ frames := 27, cells := 0, slots := 0, locals := 665 }) (va_Pc [.ref (ad 13), .int a1] (wPre (dC, dI) cy (wG (cC cy ad τ) ad (182 + 6 * nb) σ) sz)) (va_Qi (fun (r : Int32) (_ : Unit) => r = r0) (fun (_ : Unit) t => wAt (dC, dI) (va_A (wG (cC cy ad τ) ad (182 + 6 * nb) σ) sz) (wG (cC cy ad τ) ad (182 + 6 * nb) σ9) t) (va_A (wG (cC cy ad τ) ad (182 + 6 * nb) σ) sz)) 0 0 (va_A (wG (cC cy ad τ) ad (182 + 6 * nb) σ) sz) := (gGX3_readSum l dC dI cy ad τ nb hτ 24).2.1

theorem tX3_readOperand (l : Launch) (dC : Nat → ClassId) (dI : Nat → Nat → Nat) (cy : Nat → ClassId) (ad : Nat → Nat) (τ nb : Nat) (hτ : τ < nb) : ∀ (σ : S2) (a1 : Int32) (sz : Nat) (r0 : Int32) (σ9 : S2), fX3_readOperand τ σ a1 = some (r0, σ9) → Met l yX3_readOperand wsX3_readOperand ({ frames := 27, cells := 0, slots := 0, locals := 665 }) (va_Pc [.ref (ad 13), .int a1] (wPre (dC, dI) cy (wG (cC cy ad τ) ad (182 + 6 * nb) σ) sz)) (va_Qi (fun (r : Int32) (_ : Unit) => r = r0) (fun (_ : Unit) t => wAt (dC, dI) (va_A (wG (cC cy ad τ) ad (182 + 6 * nb) σ) sz) (wG (cC cy ad τ) ad (182 + 6 * nb) σ9) t) (va_A (wG (cC cy ad τ) ad (182 + 6 * nb) σ) sz)) 0 0 (va_A (wG (cC cy ad τ) ad (182 + 6 * nb) σ) sz) := (gGX3_readSum l dC dI cy ad τ nb hτ 24).2.2.1

theorem tX3_readBracket (l : Launch) (dC : Nat → ClassId) (dI : Nat → Nat → Nat) (cy : Nat → ClassId) (ad : Nat → Nat) (τ nb : Nat) (hτ : τ < nb) : ∀ (σ : S2) (a1 : Int32) (sz : Nat) (r0 : Int32) (σ9 : S2), fX3_readBracket τ σ a1 = some (r0, σ9) → Met l yX3_readBracket wsX3_readBracket ({ frames := 27, cells := 0, slots := 0, locals := 665 }) (va_Pc [.ref (ad 13), .int a1] (wPre (dC, dI) cy (wG (cC cy ad τ) ad (182 + 6 * nb) σ) sz)) (va_Qi (fun (r : Int32) (_ : Unit) => r = r0) (fun (_ : Unit) t => wAt (dC, dI) (va_A (wG (cC cy ad τ) ad (182 + 6 * nb) σ) sz) (wG (cC cy ad τ) ad (182 + 6 * nb) σ9) t) (va_A (wG (cC cy ad τ) ad (182 + 6 * nb) σ) sz)) 0 0 (va_A (wG (cC cy ad τ) ad (182 + 6 * nb) σ) sz) := (gGX3_readSum l dC dI cy ad τ nb hτ 24).2.2.2

set_option maxHeartbeats 4000000 in
set_option maxRecDepth 100000 in
theorem tX3_heldWithin (l : Launch) (dC : Nat → ClassId) (dI : Nat → Nat → Nat) (cy : Nat → ClassId) (ad : Nat → Nat) (τ nb : Nat) (hτ : τ < nb) (σ : S2) (a0 : Int32) (sz : Nat) (r0 : Int32) (h : fX3_heldWithin τ σ a0 = some r0) : Met l yX3_heldWithin wsX3_heldWithin ({ frames := 2, cells := 0, slots := 0, locals := 40 }) (va_Pc [.int a0] (wPre (dC, dI) cy (wG (cC cy ad τ) ad (182 + 6 * nb) σ) sz)) (va_Qi (fun (r : Int32) (_ : Unit) => r = r0) (fun (_ : Unit) t => wAt (dC, dI) (va_A (wG (cC cy ad τ) ad (182 + 6 * nb) σ) sz) (wG (cC cy ad τ) ad (182 + 6 * nb) σ) t) (va_A (wG (cC cy ad τ) ad (182 + 6 * nb) σ) sz)) 0 0 (va_A (wG (cC cy ad τ) ad (182 + 6 * nb) σ) sz) := by
  refine Met.ofW (cc := cX3_heldWithin) (maxL := 1) (ret := (some .int)) (by decide) rfl ?_
  intro p e s m args below meth c s₁ B hml hv
  obtain ⟨rfl, hsz, hP, hK, hD0, hN⟩ := hv
  have hx := B.exec
  have hb := B.bytes
  have hr := B.returns
  have hts := atoms_spec (ws := wsX3_heldWithin) B.pre
  have hown : s.vm.findClass RX3 = some m.cls := findClass_of_methodNamed B.named
  have hlocks := B.notSynchronized
  subst hsz
  have hD := hD0.self (sz := s.heap.size)
  generalize hAe : va_A (wG (cC cy ad τ) ad (182 + 6 * nb) σ) s.heap.size = A at hD ⊢
  have hA : ∀ q : Nat, s.heap.size ≤ q → A q := fun q h => by rw [← hAe]; exact Or.inr h
  have hS : va_S A s.heap s.heap [] := va_S.rf
  have hl := lv_entry ([.int a0]) (n := 1) (Nat.le_of_ble_eq_true rfl)
  rw [lg_entry_eq]
  generalize (lg_sl ([.int a0]) ++ List.replicate (1 - (lg_sl ([.int a0])).length) Slot.unset).toArray = ls at hl ⊢
  have hl : lv_has ls 1 [(0, .int a0)] := hl
  unfold fX3_heldWithin at h
  clear hAe hD0
  suffices HH : ∀ (H : Heap) (locs : List Loc) (ls : Array Slot), fX3_heldWithin_0 τ σ a0 = some r0 → va_P (dC, dI) vwCl (wG (cC cy ad τ) ad (182 + 6 * nb) σ) H → va_D A (wG (cC cy ad τ) ad (182 + 6 * nb) σ) → va_S A s.heap H locs → lv_has ls 1 [(0, .int a0)] → W p l e (headSpec wsX3_heldWithin ({ frames := 2, cells := 0, slots := 0, locals := 40 })).room s m (#[.int a0]) below meth c H locs 0 0 (MQ below (va_Qi (fun (r : Int32) (_ : Unit) => r = r0) (fun (_ : Unit) t => wAt (dC, dI) A (wG (cC cy ad τ) ad (182 + 6 * nb) σ) t) A) (#[.int a0]) s 0 0 A) (F0 m 0 ls []) from HH s.heap [] ls h hP hD hS hl
  have w0 : ∀ (σ : S2) (x0 : Int32) (H : Heap) (locs : List Loc) (ls : Array Slot), fX3_heldWithin_0 τ σ x0 = some r0 → va_P (dC, dI) vwCl (wG (cC cy ad τ) ad (182 + 6 * nb) σ) H → va_D A (wG (cC cy ad τ) ad (182 + 6 * nb) σ) → va_S A s.heap H locs → lv_has ls 1 [(0, .int x0)] → W p l e (headSpec wsX3_heldWithin ({ frames := 2, cells := 0, slots := 0, locals := 40 })).room s m (#[.int a0]) below meth c H locs 0 0 (MQ below (va_Qi (fun (r : Int32) (_ : Unit) => r = r0) (fun (_ : Unit) t => wAt (dC, dI) A (wG (cC cy ad τ) ad (182 + 6 * nb) σ) t) A) (#[.int a0]) s 0 0 A) (F0 m 0 ls []) := by
    intro σ x0 H locs ls h hP hD hS hl
    unfold fX3_heldWithin_0 at h
    refine lv_iconst (v := 1) hx hb dX3_heldWithin_0 (by decide) ?_
    refine lv_iconst (v := 4) hx hb dX3_heldWithin_1 (by decide) ?_
    refine lv_iload_n hx hb dX3_heldWithin_2 rfl (lv_at hl 0 rfl) ?_
    refine va_mmin hx hb (hml.trans hl.1.symm) hown (hts (.methodLink RX3 97 Lib.Math.min.name) (List.mem_of_getElem? (i := 1) rfl)) (hts (.static Lib.Math.min.name) (List.mem_of_getElem? (i := 2) rfl)) (hts (.initialized "java/lang/Math") (List.mem_of_getElem? (i := 3) rfl)) (hts (.code Lib.Math.min.name Lib.Math.min.code 2 (some .int)) (List.mem_of_getElem? (i := 4) rfl)) (Nat.le_of_ble_eq_true rfl) (Nat.le_of_ble_eq_true rfl) (Nat.le_of_ble_eq_true rfl) (Nat.le_of_ble_eq_true rfl) dX3_heldWithin_3 ?_
    refine va_mmax hx hb (hml.trans hl.1.symm) hown (hts (.methodLink RX3 82 Lib.Math.max.name) (List.mem_of_getElem? (i := 5) rfl)) (hts (.static Lib.Math.max.name) (List.mem_of_getElem? (i := 6) rfl)) (hts (.initialized "java/lang/Math") (List.mem_of_getElem? (i := 3) rfl)) (hts (.code Lib.Math.max.name Lib.Math.max.code 2 (some .int)) (List.mem_of_getElem? (i := 7) rfl)) (Nat.le_of_ble_eq_true rfl) (Nat.le_of_ble_eq_true rfl) (Nat.le_of_ble_eq_true rfl) (Nat.le_of_ble_eq_true rfl) dX3_heldWithin_6 ?_
    exact ux_iretP hx hb hr h hP hD hS hlocks dX3_heldWithin_9
  intro H locs ls h hP hD hS hl
  exact w0 σ a0 H locs ls h hP hD hS (lv_sub hl [0] rfl)

set_option maxHeartbeats 4000000 in
set_option maxRecDepth 100000 in
theorem tX3_readWay (l : Launch) (dC : Nat → ClassId) (dI : Nat → Nat → Nat) (cy : Nat → ClassId) (ad : Nat → Nat) (τ nb : Nat) (hτ : τ < nb) (σ : S2)  (sz : Nat) (r0 : Int32) (σ9 : S2) (h : fX3_readWay τ σ = some (r0, σ9)) : Met l yX3_readWay wsX3_readWay ({ frames := 2, cells := 0, slots := 0, locals := 43 }) (va_Pc [.ref (ad 13)] (wPre (dC, dI) cy (wG (cC cy ad τ) ad (182 + 6 * nb) σ) sz)) (va_Qi (fun (r : Int32) (_ : Unit) => r = r0) (fun (_ : Unit) t => wAt (dC, dI) (va_A (wG (cC cy ad τ) ad (182 + 6 * nb) σ) sz) (wG (cC cy ad τ) ad (182 + 6 * nb) σ9) t) (va_A (wG (cC cy ad τ) ad (182 + 6 * nb) σ) sz)) 0 0 (va_A (wG (cC cy ad τ) ad (182 + 6 * nb) σ) sz) := by
  refine Met.ofW (cc := cX3_readWay) (maxL := 2) (ret := (some .int)) (by decide) rfl ?_
  intro p e s m args below meth c s₁ B hml hv
  obtain ⟨rfl, hsz, hP, hK, hD0, hN⟩ := hv
  have hx := B.exec
  have hb := B.bytes
  have hr := B.returns
  have hts := atoms_spec (ws := wsX3_readWay) B.pre
  have hown : s.vm.findClass RX3 = some m.cls := findClass_of_methodNamed B.named
  have hlocks := B.notSynchronized
  subst hsz
  have hD := hD0.self (sz := s.heap.size)
  generalize hAe : va_A (wG (cC cy ad τ) ad (182 + 6 * nb) σ) s.heap.size = A at hD ⊢
  have hA : ∀ q : Nat, s.heap.size ≤ q → A q := fun q h => by rw [← hAe]; exact Or.inr h
  have hS : va_S A s.heap s.heap [] := va_S.rf
  have hl := lv_entry ([.ref (ad 13)]) (n := 2) (Nat.le_of_ble_eq_true rfl)
  rw [lg_entry_eq]
  generalize (lg_sl ([.ref (ad 13)]) ++ List.replicate (2 - (lg_sl ([.ref (ad 13)])).length) Slot.unset).toArray = ls at hl ⊢
  have hl : lv_has ls 2 [(0, .ref (ad 13))] := hl
  unfold fX3_readWay at h
  clear hAe hD0
  suffices HH : ∀ (H : Heap) (locs : List Loc) (ls : Array Slot), fX3_readWay_0 τ σ = some (r0, σ9) → va_P (dC, dI) vwCl (wG (cC cy ad τ) ad (182 + 6 * nb) σ) H → va_D A (wG (cC cy ad τ) ad (182 + 6 * nb) σ) → va_S A s.heap H locs → lv_has ls 2 [(0, .ref (ad 13))] → W p l e (headSpec wsX3_readWay ({ frames := 2, cells := 0, slots := 0, locals := 43 })).room s m (#[.ref (ad 13)]) below meth c H locs 0 0 (MQ below (va_Qi (fun (r : Int32) (_ : Unit) => r = r0) (fun (_ : Unit) t => wAt (dC, dI) A (wG (cC cy ad τ) ad (182 + 6 * nb) σ9) t) A) (#[.ref (ad 13)]) s 0 0 A) (F0 m 0 ls []) from HH s.heap [] ls h hP hD hS hl
  have w17 : ∀ (σ : S2)  (H : Heap) (locs : List Loc) (ls : Array Slot), fX3_readWay_17 τ σ = some (r0, σ9) → va_P (dC, dI) vwCl (wG (cC cy ad τ) ad (182 + 6 * nb) σ) H → va_D A (wG (cC cy ad τ) ad (182 + 6 * nb) σ) → va_S A s.heap H locs → lv_has ls 2 [(0, .ref (ad 13))] → W p l e (headSpec wsX3_readWay ({ frames := 2, cells := 0, slots := 0, locals := 43 })).room s m (#[.ref (ad 13)]) below meth c H locs 0 0 (MQ below (va_Qi (fun (r : Int32) (_ : Unit) => r = r0) (fun (_ : Unit) t => wAt (dC, dI) A (wG (cC cy ad τ) ad (182 + 6 * nb) σ9) t) A) (#[.ref (ad 13)]) s 0 0 A) (F0 m 17 ls []) := by
    intro σ H locs ls h hP hD hS hl
    unfold fX3_readWay_17 at h
    refine lv_aload_n hx hb dX3_readWay_17 rfl (lv_at hl 0 rfl) ?_
    refine lv_aload_n hx hb dX3_readWay_18 rfl (lv_at hl 0 rfl) ?_
    refine ux_get (D := (dC, dI)) (ci := 3) (v := .int (σ.1 13 2)) (C := RX3) (T := TX3) (M := 8) (fs := (oLW ad (σ.1 13))) hx hb hts (fun _ h9 => List.mem_cons_of_mem _ (List.mem_append_right _ h9)) hown hK hP 13 (Nat.lt_of_lt_of_le (Nat.le_of_ble_eq_true rfl : 13 < 182) (Nat.le_add_right _ _)) (cC_13 _ _ _ _ _) rfl 2 (by decide) (hts (.fieldLink RX3 19 "SeatsRound$Law" "at" "I") (List.mem_of_getElem? (i := 1) rfl)) (fun _ h9 => h9) rfl dX3_readWay_19 ?_
    refine ux_put (D := (dC, dI)) (ci := 3) (C := RX3) (T := TX3) (M := 8) (fs := (oLW ad (σ.1 13))) hx hb hts (fun _ h9 => List.mem_cons_of_mem _ (List.mem_append_right _ h9)) tyX3 tyX3_ok nmX3 hown hK hP hD hS 13 (Nat.lt_of_lt_of_le (Nat.le_of_ble_eq_true rfl : 13 < 182) (Nat.le_add_right _ _)) (cC_13 _ _ _ _ _) rfl 3 (by decide) (hts (.fieldLink RX3 22 "SeatsRound$Law" "fault" "I") (List.mem_of_getElem? (i := 2) rfl)) (fun _ h9 => h9) rfl (tyX3_ok 3 (by decide)) rfl rfl (Nat.le_of_ble_eq_true rfl) (oC_13_3 _ _ _ _ _ _) h dX3_readWay_22 (fun σ1 H locs h hP hD hS => ?_)
    refine lv_iconst (v := 0) hx hb dX3_readWay_25 (by decide) ?_
    exact ux_iret hx hb hr h hP hD hS hlocks dX3_readWay_26
  have w0 : ∀ (σ : S2)  (H : Heap) (locs : List Loc) (ls : Array Slot), fX3_readWay_0 τ σ = some (r0, σ9) → va_P (dC, dI) vwCl (wG (cC cy ad τ) ad (182 + 6 * nb) σ) H → va_D A (wG (cC cy ad τ) ad (182 + 6 * nb) σ) → va_S A s.heap H locs → lv_has ls 2 [(0, .ref (ad 13))] → W p l e (headSpec wsX3_readWay ({ frames := 2, cells := 0, slots := 0, locals := 43 })).room s m (#[.ref (ad 13)]) below meth c H locs 0 0 (MQ below (va_Qi (fun (r : Int32) (_ : Unit) => r = r0) (fun (_ : Unit) t => wAt (dC, dI) A (wG (cC cy ad τ) ad (182 + 6 * nb) σ9) t) A) (#[.ref (ad 13)]) s 0 0 A) (F0 m 0 ls []) := by
    intro σ H locs ls h hP hD hS hl
    unfold fX3_readWay_0 at h
    refine lv_aload_n hx hb dX3_readWay_0 rfl (lv_at hl 0 rfl) ?_
    obtain ⟨r2, hf3, h⟩ := biS h
    refine ux_calli (va_runV (As := []) (rest := []) ⟨hx, hb, hml, hown, hts⟩ (tX3_sign l dC dI cy ad τ nb hτ σ H.size r2 hf3) (cwV 0 hts gX3_readWay_X3_sign rfl rfl rfl (by decide +kernel) ⟨Nat.le_of_ble_eq_true rfl, Nat.le_of_ble_eq_true rfl⟩) (wp_V hK hN hP hD (va_recv hK hP (ci := 3) (q0 := 13) rfl (wG_of (Nat.lt_of_lt_of_le (Nat.le_of_ble_eq_true rfl : 13 < 182) (Nat.le_add_right _ _)) (cC_13 _ _ _ _ _)))) rfl rfl hl.1 rfl (lv_room (Nat.le_of_ble_eq_true rfl)) dX3_readWay_1 ⟨Nat.le_of_ble_eq_true rfl, Nat.le_of_ble_eq_true rfl⟩) hD hS hA (fun H locs hP hD hS => ?_)
    refine lv_bipush (v := 48) hx hb dX3_readWay_4 (by decide) ?_
    refine lv_isub hx hb dX3_readWay_6 ?_
    refine lv_topi (fun v4 ev4 => ?_)
    have h := nmS h ev4
    refine lv_istore_n (lv' := [(1, .int v4), (0, .ref (ad 13))]) hx hb dX3_readWay_7 rfl hl (by decide) rfl (fun ls hl => ?_)
    have hl := lv_sub hl [1, 0] (l' := [(0, .ref (ad 13)), (1, .int v4)]) rfl
    refine lv_iload_n hx hb dX3_readWay_8 rfl (lv_at hl 1 rfl) ?_
    refine lv_if_lt (tgt := 17) hx hb dX3_readWay_9 (by decide) (fun hcd => ?_) (fun hcd => ?_)
    · have h := cdP hcd h
      exact w17 σ H locs ls h hP hD hS (lv_sub hl [0] rfl)
    · have h := cdN hcd h
      refine lv_iload_n hx hb dX3_readWay_12 rfl (lv_at hl 1 rfl) ?_
      refine lv_iconst (v := 2) hx hb dX3_readWay_13 (by decide) ?_
      refine lv_icmp_le (tgt := 27) hx hb dX3_readWay_14 (by decide) (fun hcd => ?_) (fun hcd => ?_)
      · have h := cdP hcd h
        refine lv_aload_n hx hb dX3_readWay_27 rfl (lv_at hl 0 rfl) ?_
        refine lv_dup hx hb dX3_readWay_28 rfl ?_
        refine ux_get (D := (dC, dI)) (ci := 3) (v := .int (σ.1 13 2)) (C := RX3) (T := TX3) (M := 8) (fs := (oLW ad (σ.1 13))) hx hb hts (fun _ h9 => List.mem_cons_of_mem _ (List.mem_append_right _ h9)) hown hK hP 13 (Nat.lt_of_lt_of_le (Nat.le_of_ble_eq_true rfl : 13 < 182) (Nat.le_add_right _ _)) (cC_13 _ _ _ _ _) rfl 2 (by decide) (hts (.fieldLink RX3 19 "SeatsRound$Law" "at" "I") (List.mem_of_getElem? (i := 1) rfl)) (fun _ h9 => h9) rfl dX3_readWay_29 ?_
        refine lv_iconst (v := 1) hx hb dX3_readWay_32 (by decide) ?_
        refine lv_iadd hx hb dX3_readWay_33 ?_
        refine ux_put (D := (dC, dI)) (ci := 3) (C := RX3) (T := TX3) (M := 8) (fs := (oLW ad (σ.1 13))) hx hb hts (fun _ h9 => List.mem_cons_of_mem _ (List.mem_append_right _ h9)) tyX3 tyX3_ok nmX3 hown hK hP hD hS 13 (Nat.lt_of_lt_of_le (Nat.le_of_ble_eq_true rfl : 13 < 182) (Nat.le_add_right _ _)) (cC_13 _ _ _ _ _) rfl 2 (by decide) (hts (.fieldLink RX3 19 "SeatsRound$Law" "at" "I") (List.mem_of_getElem? (i := 1) rfl)) (fun _ h9 => h9) rfl (tyX3_ok 2 (by decide)) rfl rfl (Nat.le_of_ble_eq_true rfl) (oC_13_2 _ _ _ _ _ _) h dX3_readWay_34 (fun σ5 H locs h hP hD hS => ?_)
        refine lv_iload_n hx hb dX3_readWay_37 rfl (lv_at hl 1 rfl) ?_
        exact ux_iret hx hb hr h hP hD hS hlocks dX3_readWay_38
      · have h := cdN hcd h
        exact w17 σ H locs ls h hP hD hS (lv_sub hl [0] rfl)
  intro H locs ls h hP hD hS hl
  exact w0 σ H locs ls h hP hD hS (lv_sub hl [0] rfl)

set_option maxHeartbeats 4000000 in
set_option maxRecDepth 100000 in
theorem tX3_readPart (l : Launch) (dC : Nat → ClassId) (dI : Nat → Nat → Nat) (cy : Nat → ClassId) (ad : Nat → Nat) (τ nb : Nat) (hτ : τ < nb) (σ : S2) (a2 : Int32) (sz : Nat) (r0 : Int32) (σ9 : S2) (h : fX3_readPart τ σ a2 = some (r0, σ9)) : Met l yX3_readPart wsX3_readPart ({ frames := 28, cells := 0, slots := 0, locals := 690 }) (va_Pc [.ref (ad 13), .ref (ad 182), .int a2] (wPre (dC, dI) cy (wG (cC cy ad τ) ad (182 + 6 * nb) σ) sz)) (va_Qi (fun (r : Int32) (_ : Unit) => r = r0) (fun (_ : Unit) t => wAt (dC, dI) (va_A (wG (cC cy ad τ) ad (182 + 6 * nb) σ) sz) (wG (cC cy ad τ) ad (182 + 6 * nb) σ9) t) (va_A (wG (cC cy ad τ) ad (182 + 6 * nb) σ) sz)) 0 0 (va_A (wG (cC cy ad τ) ad (182 + 6 * nb) σ) sz) := by
  refine Met.ofW (cc := cX3_readPart) (maxL := 5) (ret := (some .int)) (by decide) rfl ?_
  intro p e s m args below meth c s₁ B hml hv
  obtain ⟨rfl, hsz, hP, hK, hD0, hN⟩ := hv
  have hx := B.exec
  have hb := B.bytes
  have hr := B.returns
  have hts := atoms_spec (ws := wsX3_readPart) B.pre
  have hown : s.vm.findClass RX3 = some m.cls := findClass_of_methodNamed B.named
  have hlocks := B.notSynchronized
  subst hsz
  have hD := hD0.self (sz := s.heap.size)
  generalize hAe : va_A (wG (cC cy ad τ) ad (182 + 6 * nb) σ) s.heap.size = A at hD ⊢
  have hA : ∀ q : Nat, s.heap.size ≤ q → A q := fun q h => by rw [← hAe]; exact Or.inr h
  have hS : va_S A s.heap s.heap [] := va_S.rf
  have hl := lv_entry ([.ref (ad 13), .ref (ad 182), .int a2]) (n := 5) (Nat.le_of_ble_eq_true rfl)
  rw [lg_entry_eq]
  generalize (lg_sl ([.ref (ad 13), .ref (ad 182), .int a2]) ++ List.replicate (5 - (lg_sl ([.ref (ad 13), .ref (ad 182), .int a2])).length) Slot.unset).toArray = ls at hl ⊢
  have hl : lv_has ls 5 [(0, .ref (ad 13)), (1, .ref (ad 182)), (2, .int a2)] := hl
  unfold fX3_readPart at h
  clear hAe hD0
  suffices HH : ∀ (H : Heap) (locs : List Loc) (ls : Array Slot), fX3_readPart_0 τ σ a2 = some (r0, σ9) → va_P (dC, dI) vwCl (wG (cC cy ad τ) ad (182 + 6 * nb) σ) H → va_D A (wG (cC cy ad τ) ad (182 + 6 * nb) σ) → va_S A s.heap H locs → lv_has ls 5 [(0, .ref (ad 13)), (1, .ref (ad 182)), (2, .int a2)] → W p l e (headSpec wsX3_readPart ({ frames := 28, cells := 0, slots := 0, locals := 690 })).room s m (#[.ref (ad 13), .ref (ad 182), .int a2]) below meth c H locs 0 0 (MQ below (va_Qi (fun (r : Int32) (_ : Unit) => r = r0) (fun (_ : Unit) t => wAt (dC, dI) A (wG (cC cy ad τ) ad (182 + 6 * nb) σ9) t) A) (#[.ref (ad 13), .ref (ad 182), .int a2]) s 0 0 A) (F0 m 0 ls []) from HH s.heap [] ls h hP hD hS hl
  have w50 : ∀ (σ : S2)  (H : Heap) (locs : List Loc) (ls : Array Slot), fX3_readPart_50 τ σ = some (r0, σ9) → va_P (dC, dI) vwCl (wG (cC cy ad τ) ad (182 + 6 * nb) σ) H → va_D A (wG (cC cy ad τ) ad (182 + 6 * nb) σ) → va_S A s.heap H locs → lv_has ls 5 [(0, .ref (ad 13))] → W p l e (headSpec wsX3_readPart ({ frames := 28, cells := 0, slots := 0, locals := 690 })).room s m (#[.ref (ad 13), .ref (ad 182), .int a2]) below meth c H locs 0 0 (MQ below (va_Qi (fun (r : Int32) (_ : Unit) => r = r0) (fun (_ : Unit) t => wAt (dC, dI) A (wG (cC cy ad τ) ad (182 + 6 * nb) σ9) t) A) (#[.ref (ad 13), .ref (ad 182), .int a2]) s 0 0 A) (F0 m 50 ls []) := by
    intro σ H locs ls h hP hD hS hl
    unfold fX3_readPart_50 at h
    refine lv_aload_n hx hb dX3_readPart_50 rfl (lv_at hl 0 rfl) ?_
    refine lv_aload_n hx hb dX3_readPart_51 rfl (lv_at hl 0 rfl) ?_
    refine ux_get (D := (dC, dI)) (ci := 3) (v := .int (σ.1 13 2)) (C := RX3) (T := TX3) (M := 8) (fs := (oLW ad (σ.1 13))) hx hb hts (fun _ h9 => List.mem_cons_of_mem _ (List.mem_append_left _ (List.mem_append_right _ h9))) hown hK hP 13 (Nat.lt_of_lt_of_le (Nat.le_of_ble_eq_true rfl : 13 < 182) (Nat.le_add_right _ _)) (cC_13 _ _ _ _ _) rfl 2 (by decide) (hts (.fieldLink RX3 19 "SeatsRound$Law" "at" "I") (List.mem_of_getElem? (i := 1) rfl)) (fun _ h9 => h9) rfl dX3_readPart_52 ?_
    refine ux_put (D := (dC, dI)) (ci := 3) (C := RX3) (T := TX3) (M := 8) (fs := (oLW ad (σ.1 13))) hx hb hts (fun _ h9 => List.mem_cons_of_mem _ (List.mem_append_left _ (List.mem_append_right _ h9))) tyX3 tyX3_ok nmX3 hown hK hP hD hS 13 (Nat.lt_of_lt_of_le (Nat.le_of_ble_eq_true rfl : 13 < 182) (Nat.le_add_right _ _)) (cC_13 _ _ _ _ _) rfl 3 (by decide) (hts (.fieldLink RX3 22 "SeatsRound$Law" "fault" "I") (List.mem_of_getElem? (i := 2) rfl)) (fun _ h9 => h9) rfl (tyX3_ok 3 (by decide)) rfl rfl (Nat.le_of_ble_eq_true rfl) (oC_13_3 _ _ _ _ _ _) h dX3_readPart_55 (fun σ1 H locs h hP hD hS => ?_)
    refine lv_iconst (v := 0) hx hb dX3_readPart_58 (by decide) ?_
    exact ux_iret hx hb hr h hP hD hS hlocks dX3_readPart_59
  have w36 : ∀ (σ : S2) (x2 : Int32) (x3 : Int32) (s0 : Int32) (H : Heap) (locs : List Loc) (ls : Array Slot), fX3_readPart_36 τ σ x2 x3 s0 = some (r0, σ9) → va_P (dC, dI) vwCl (wG (cC cy ad τ) ad (182 + 6 * nb) σ) H → va_D A (wG (cC cy ad τ) ad (182 + 6 * nb) σ) → va_S A s.heap H locs → lv_has ls 5 [(0, .ref (ad 13)), (1, .ref (ad 182)), (2, .int x2), (3, .int x3)] → W p l e (headSpec wsX3_readPart ({ frames := 28, cells := 0, slots := 0, locals := 690 })).room s m (#[.ref (ad 13), .ref (ad 182), .int a2]) below meth c H locs 0 0 (MQ below (va_Qi (fun (r : Int32) (_ : Unit) => r = r0) (fun (_ : Unit) t => wAt (dC, dI) A (wG (cC cy ad τ) ad (182 + 6 * nb) σ9) t) A) (#[.ref (ad 13), .ref (ad 182), .int a2]) s 0 0 A) (F0 m 36 ls [.int s0]) := by
    intro σ x2 x3 s0 H locs ls h hP hD hS hl
    unfold fX3_readPart_36 at h
    refine lv_istore (lv' := [(4, .int s0), (0, .ref (ad 13)), (1, .ref (ad 182)), (2, .int x2), (3, .int x3)]) hx hb dX3_readPart_36 hl (by decide) rfl (fun ls hl => ?_)
    have hl := lv_sub hl [1, 2, 3, 4, 0] (l' := [(0, .ref (ad 13)), (1, .ref (ad 182)), (2, .int x2), (3, .int x3), (4, .int s0)]) rfl
    refine lv_iload hx hb dX3_readPart_38 (lv_at hl 4 rfl) ?_
    refine lv_if_eq (tgt := 50) hx hb dX3_readPart_40 (by decide) (fun hcd => ?_) (fun hcd => ?_)
    · have h := cdP hcd h
      exact w50 σ H locs ls h hP hD hS (lv_sub hl [0] rfl)
    · have h := cdN hcd h
      refine lv_iload_n hx hb dX3_readPart_43 rfl (lv_at hl 2 rfl) ?_
      refine lv_iload hx hb dX3_readPart_44 (lv_at hl 4 rfl) ?_
      refine lv_iand hx hb dX3_readPart_46 ?_
      refine lv_if_eq (tgt := 60) hx hb dX3_readPart_47 (by decide) (fun hcd => ?_) (fun hcd => ?_)
      · have h := cdP hcd h
        refine lv_aload_n hx hb dX3_readPart_60 rfl (lv_at hl 0 rfl) ?_
        refine lv_dup hx hb dX3_readPart_61 rfl ?_
        refine ux_get (D := (dC, dI)) (ci := 3) (v := .int (σ.1 13 2)) (C := RX3) (T := TX3) (M := 8) (fs := (oLW ad (σ.1 13))) hx hb hts (fun _ h9 => List.mem_cons_of_mem _ (List.mem_append_left _ (List.mem_append_right _ h9))) hown hK hP 13 (Nat.lt_of_lt_of_le (Nat.le_of_ble_eq_true rfl : 13 < 182) (Nat.le_add_right _ _)) (cC_13 _ _ _ _ _) rfl 2 (by decide) (hts (.fieldLink RX3 19 "SeatsRound$Law" "at" "I") (List.mem_of_getElem? (i := 1) rfl)) (fun _ h9 => h9) rfl dX3_readPart_62 ?_
        refine lv_iconst (v := 1) hx hb dX3_readPart_65 (by decide) ?_
        refine lv_iadd hx hb dX3_readPart_66 ?_
        refine ux_put (D := (dC, dI)) (ci := 3) (C := RX3) (T := TX3) (M := 8) (fs := (oLW ad (σ.1 13))) hx hb hts (fun _ h9 => List.mem_cons_of_mem _ (List.mem_append_left _ (List.mem_append_right _ h9))) tyX3 tyX3_ok nmX3 hown hK hP hD hS 13 (Nat.lt_of_lt_of_le (Nat.le_of_ble_eq_true rfl : 13 < 182) (Nat.le_add_right _ _)) (cC_13 _ _ _ _ _) rfl 2 (by decide) (hts (.fieldLink RX3 19 "SeatsRound$Law" "at" "I") (List.mem_of_getElem? (i := 1) rfl)) (fun _ h9 => h9) rfl (tyX3_ok 2 (by decide)) rfl rfl (Nat.le_of_ble_eq_true rfl) (oC_13_2 _ _ _ _ _ _) h dX3_readPart_67 (fun σ2 H locs h hP hD hS => ?_)
        refine lv_aload_n hx hb dX3_readPart_70 rfl (lv_at hl 0 rfl) ?_
        obtain ⟨r3, hf4, h⟩ := biS h
        refine ux_calli (va_runV (As := []) (rest := []) ⟨hx, hb, hml, hown, hts⟩ (tX3_sign l dC dI cy ad τ nb hτ σ2 H.size r3 hf4) (cwV 0 hts gX3_readPart_X3_sign rfl rfl rfl (by decide +kernel) ⟨Nat.le_of_ble_eq_true rfl, Nat.le_of_ble_eq_true rfl⟩) (wp_V hK hN hP hD (va_recv hK hP (ci := 3) (q0 := 13) rfl (wG_of (Nat.lt_of_lt_of_le (Nat.le_of_ble_eq_true rfl : 13 < 182) (Nat.le_add_right _ _)) (cC_13 _ _ _ _ _)))) rfl rfl hl.1 rfl (lv_room (Nat.le_of_ble_eq_true rfl)) dX3_readPart_71 ⟨Nat.le_of_ble_eq_true rfl, Nat.le_of_ble_eq_true rfl⟩) hD hS hA (fun H locs hP hD hS => ?_)
        refine lv_bipush (v := 32) hx hb dX3_readPart_74 (by decide) ?_
        refine lv_icmp_eq (tgt := 89) hx hb dX3_readPart_76 (by decide) (fun hcd => ?_) (fun hcd => ?_)
        · have h := cdP hcd h
          refine lv_aload_n hx hb dX3_readPart_89 rfl (lv_at hl 0 rfl) ?_
          refine lv_dup hx hb dX3_readPart_90 rfl ?_
          refine ux_get (D := (dC, dI)) (ci := 3) (v := .int (σ2.1 13 2)) (C := RX3) (T := TX3) (M := 8) (fs := (oLW ad (σ2.1 13))) hx hb hts (fun _ h9 => List.mem_cons_of_mem _ (List.mem_append_left _ (List.mem_append_right _ h9))) hown hK hP 13 (Nat.lt_of_lt_of_le (Nat.le_of_ble_eq_true rfl : 13 < 182) (Nat.le_add_right _ _)) (cC_13 _ _ _ _ _) rfl 2 (by decide) (hts (.fieldLink RX3 19 "SeatsRound$Law" "at" "I") (List.mem_of_getElem? (i := 1) rfl)) (fun _ h9 => h9) rfl dX3_readPart_91 ?_
          refine lv_iconst (v := 1) hx hb dX3_readPart_94 (by decide) ?_
          refine lv_iadd hx hb dX3_readPart_95 ?_
          refine ux_put (D := (dC, dI)) (ci := 3) (C := RX3) (T := TX3) (M := 8) (fs := (oLW ad (σ2.1 13))) hx hb hts (fun _ h9 => List.mem_cons_of_mem _ (List.mem_append_left _ (List.mem_append_right _ h9))) tyX3 tyX3_ok nmX3 hown hK hP hD hS 13 (Nat.lt_of_lt_of_le (Nat.le_of_ble_eq_true rfl : 13 < 182) (Nat.le_add_right _ _)) (cC_13 _ _ _ _ _) rfl 2 (by decide) (hts (.fieldLink RX3 19 "SeatsRound$Law" "at" "I") (List.mem_of_getElem? (i := 1) rfl)) (fun _ h9 => h9) rfl (tyX3_ok 2 (by decide)) rfl rfl (Nat.le_of_ble_eq_true rfl) (oC_13_2 _ _ _ _ _ _) h dX3_readPart_96 (fun σ5 H locs h hP hD hS => ?_)
          refine lv_iload_n hx hb dX3_readPart_99 rfl (lv_at hl 3 rfl) ?_
          refine lv_bipush (v := 99) hx hb dX3_readPart_100 (by decide) ?_
          refine lv_icmp_ne (tgt := 120) hx hb dX3_readPart_102 (by decide) (fun hcd => ?_) (fun hcd => ?_)
          · have h := cdN hcd h
            refine lv_iload_n hx hb dX3_readPart_120 rfl (lv_at hl 3 rfl) ?_
            refine lv_bipush (v := 115) hx hb dX3_readPart_121 (by decide) ?_
            refine lv_icmp_ne (tgt := 141) hx hb dX3_readPart_123 (by decide) (fun hcd => ?_) (fun hcd => ?_)
            · have h := cdN hcd h
              refine lv_aload_n hx hb dX3_readPart_141 rfl (lv_at hl 1 rfl) ?_
              refine lv_aload_n hx hb dX3_readPart_142 rfl (lv_at hl 0 rfl) ?_
              obtain ⟨r6, σ7, hf8, h⟩ := bsS h
              refine ux_calli (va_runV (As := []) (rest := [.ref (ad 182)]) ⟨hx, hb, hml, hown, hts⟩ (tX3_readWay l dC dI cy ad τ nb hτ σ5 H.size r6 σ7 hf8) (cwV 0 hts gX3_readPart_X3_readWay rfl rfl rfl (by decide +kernel) ⟨Nat.le_of_ble_eq_true rfl, Nat.le_of_ble_eq_true rfl⟩) (wp_V hK hN hP hD (va_recv hK hP (ci := 3) (q0 := 13) rfl (wG_of (Nat.lt_of_lt_of_le (Nat.le_of_ble_eq_true rfl : 13 < 182) (Nat.le_add_right _ _)) (cC_13 _ _ _ _ _)))) rfl rfl hl.1 rfl (lv_room (Nat.le_of_ble_eq_true rfl)) dX3_readPart_143 ⟨Nat.le_of_ble_eq_true rfl, Nat.le_of_ble_eq_true rfl⟩) hD hS hA (fun H locs hP hD hS => ?_)
              refine ux_put (D := (dC, dI)) (ci := 8) (C := RX8) (T := TX8) (M := 13) (fs := (oTB ad (182) (σ7.1 (182)))) hx hb hts (fun _ h9 => List.mem_cons_of_mem _ (List.mem_append_right _ h9)) tyX8 tyX8_ok nmX8 hown hK hP hD hS 182 (by omega) (cC_t0 _ _ _ _ _ 0) rfl 4 (by decide) (hts (.fieldLink RX3 55 "SeatsRound$Table" "way" "I") (List.mem_of_getElem? (i := 5) rfl)) (fun _ h9 => h9) rfl (tyX8_ok 4 (by decide)) rfl rfl (Nat.le_of_ble_eq_true rfl) (oC_t_4 _ _ _ _ _ _ 0) h dX3_readPart_146 (fun σ9 H locs h hP hD hS => ?_)
              refine lv_iload hx hb dX3_readPart_149 (lv_at hl 4 rfl) ?_
              exact ux_iret hx hb hr h hP hD hS hlocks dX3_readPart_151
            · have h := cdP hcd h
              refine lv_aload_n hx hb dX3_readPart_126 rfl (lv_at hl 1 rfl) ?_
              refine lv_aload_n hx hb dX3_readPart_127 rfl (lv_at hl 0 rfl) ?_
              refine lv_iconst (v := 0) hx hb dX3_readPart_128 (by decide) ?_
              obtain ⟨r10, σ11, hf12, h⟩ := bsS h
              refine ux_calli (va_runV (As := [.int 0]) (rest := [.ref (ad 182)]) ⟨hx, hb, hml, hown, hts⟩ (tX3_readSum l dC dI cy ad τ nb hτ σ5 0 H.size r10 σ11 hf12) (cwV 1 hts gX3_readPart_X3_readSum rfl rfl rfl (by decide +kernel) ⟨Nat.le_of_ble_eq_true rfl, Nat.le_of_ble_eq_true rfl⟩) (wp_V hK hN hP hD (va_recv hK hP (ci := 3) (q0 := 13) rfl (wG_of (Nat.lt_of_lt_of_le (Nat.le_of_ble_eq_true rfl : 13 < 182) (Nat.le_add_right _ _)) (cC_13 _ _ _ _ _)))) rfl rfl hl.1 rfl (lv_room (Nat.le_of_ble_eq_true rfl)) dX3_readPart_129 ⟨Nat.le_of_ble_eq_true rfl, Nat.le_of_ble_eq_true rfl⟩) hD hS hA (fun H locs hP hD hS => ?_)
              obtain ⟨r13, hf14, h⟩ := biS h
              refine ux_calli (va_runS (As := [.int r10]) (rest := [.ref (ad 182)]) ⟨hx, hb, hml, hown, hts⟩ (tX3_heldWithin l dC dI cy ad τ nb hτ σ11 r10 H.size r13 hf14) (va_cwS 1 hts gX3_readPart_X3_heldWithin rfl rfl rfl (by decide +kernel) ⟨Nat.le_of_ble_eq_true rfl, Nat.le_of_ble_eq_true rfl⟩) (wp_S hK hN hP hD) rfl rfl hl.1 rfl (lv_room (Nat.le_of_ble_eq_true rfl)) dX3_readPart_132 ⟨Nat.le_of_ble_eq_true rfl, Nat.le_of_ble_eq_true rfl⟩) hD hS hA (fun H locs hP hD hS => ?_)
              refine ux_put (D := (dC, dI)) (ci := 8) (C := RX8) (T := TX8) (M := 13) (fs := (oTB ad (182) (σ11.1 (182)))) hx hb hts (fun _ h9 => List.mem_cons_of_mem _ (List.mem_append_right _ h9)) tyX8 tyX8_ok nmX8 hown hK hP hD hS 182 (by omega) (cC_t0 _ _ _ _ _ 0) rfl 3 (by decide) (hts (.fieldLink RX3 52 "SeatsRound$Table" "streets" "I") (List.mem_of_getElem? (i := 4) rfl)) (fun _ h9 => h9) rfl (tyX8_ok 3 (by decide)) rfl rfl (Nat.le_of_ble_eq_true rfl) (oC_t_3 _ _ _ _ _ _ 0) h dX3_readPart_135 (fun σ15 H locs h hP hD hS => ?_)
              refine lv_goto (tgt := 149) hx hb dX3_readPart_138 (by decide) ?_
              refine lv_iload hx hb dX3_readPart_149 (lv_at hl 4 rfl) ?_
              exact ux_iret hx hb hr h hP hD hS hlocks dX3_readPart_151
          · have h := cdP hcd h
            refine lv_aload_n hx hb dX3_readPart_105 rfl (lv_at hl 1 rfl) ?_
            refine lv_aload_n hx hb dX3_readPart_106 rfl (lv_at hl 0 rfl) ?_
            refine lv_iconst (v := 0) hx hb dX3_readPart_107 (by decide) ?_
            obtain ⟨r16, σ17, hf18, h⟩ := bsS h
            refine ux_calli (va_runV (As := [.int 0]) (rest := [.ref (ad 182)]) ⟨hx, hb, hml, hown, hts⟩ (tX3_readSum l dC dI cy ad τ nb hτ σ5 0 H.size r16 σ17 hf18) (cwV 1 hts gX3_readPart_X3_readSum rfl rfl rfl (by decide +kernel) ⟨Nat.le_of_ble_eq_true rfl, Nat.le_of_ble_eq_true rfl⟩) (wp_V hK hN hP hD (va_recv hK hP (ci := 3) (q0 := 13) rfl (wG_of (Nat.lt_of_lt_of_le (Nat.le_of_ble_eq_true rfl : 13 < 182) (Nat.le_add_right _ _)) (cC_13 _ _ _ _ _)))) rfl rfl hl.1 rfl (lv_room (Nat.le_of_ble_eq_true rfl)) dX3_readPart_108 ⟨Nat.le_of_ble_eq_true rfl, Nat.le_of_ble_eq_true rfl⟩) hD hS hA (fun H locs hP hD hS => ?_)
            obtain ⟨r19, hf20, h⟩ := biS h
            refine ux_calli (va_runS (As := [.int r16]) (rest := [.ref (ad 182)]) ⟨hx, hb, hml, hown, hts⟩ (tX3_heldWithin l dC dI cy ad τ nb hτ σ17 r16 H.size r19 hf20) (va_cwS 1 hts gX3_readPart_X3_heldWithin rfl rfl rfl (by decide +kernel) ⟨Nat.le_of_ble_eq_true rfl, Nat.le_of_ble_eq_true rfl⟩) (wp_S hK hN hP hD) rfl rfl hl.1 rfl (lv_room (Nat.le_of_ble_eq_true rfl)) dX3_readPart_111 ⟨Nat.le_of_ble_eq_true rfl, Nat.le_of_ble_eq_true rfl⟩) hD hS hA (fun H locs hP hD hS => ?_)
            refine ux_put (D := (dC, dI)) (ci := 8) (C := RX8) (T := TX8) (M := 13) (fs := (oTB ad (182) (σ17.1 (182)))) hx hb hts (fun _ h9 => List.mem_cons_of_mem _ (List.mem_append_right _ h9)) tyX8 tyX8_ok nmX8 hown hK hP hD hS 182 (by omega) (cC_t0 _ _ _ _ _ 0) rfl 2 (by decide) (hts (.fieldLink RX3 49 "SeatsRound$Table" "copies" "I") (List.mem_of_getElem? (i := 3) rfl)) (fun _ h9 => h9) rfl (tyX8_ok 2 (by decide)) rfl rfl (Nat.le_of_ble_eq_true rfl) (oC_t_2 _ _ _ _ _ _ 0) h dX3_readPart_114 (fun σ21 H locs h hP hD hS => ?_)
            refine lv_goto (tgt := 149) hx hb dX3_readPart_117 (by decide) ?_
            refine lv_iload hx hb dX3_readPart_149 (lv_at hl 4 rfl) ?_
            exact ux_iret hx hb hr h hP hD hS hlocks dX3_readPart_151
        · have h := cdN hcd h
          refine lv_aload_n hx hb dX3_readPart_79 rfl (lv_at hl 0 rfl) ?_
          refine lv_aload_n hx hb dX3_readPart_80 rfl (lv_at hl 0 rfl) ?_
          refine ux_get (D := (dC, dI)) (ci := 3) (v := .int (σ2.1 13 2)) (C := RX3) (T := TX3) (M := 8) (fs := (oLW ad (σ2.1 13))) hx hb hts (fun _ h9 => List.mem_cons_of_mem _ (List.mem_append_left _ (List.mem_append_right _ h9))) hown hK hP 13 (Nat.lt_of_lt_of_le (Nat.le_of_ble_eq_true rfl : 13 < 182) (Nat.le_add_right _ _)) (cC_13 _ _ _ _ _) rfl 2 (by decide) (hts (.fieldLink RX3 19 "SeatsRound$Law" "at" "I") (List.mem_of_getElem? (i := 1) rfl)) (fun _ h9 => h9) rfl dX3_readPart_81 ?_
          refine ux_put (D := (dC, dI)) (ci := 3) (C := RX3) (T := TX3) (M := 8) (fs := (oLW ad (σ2.1 13))) hx hb hts (fun _ h9 => List.mem_cons_of_mem _ (List.mem_append_left _ (List.mem_append_right _ h9))) tyX3 tyX3_ok nmX3 hown hK hP hD hS 13 (Nat.lt_of_lt_of_le (Nat.le_of_ble_eq_true rfl : 13 < 182) (Nat.le_add_right _ _)) (cC_13 _ _ _ _ _) rfl 3 (by decide) (hts (.fieldLink RX3 22 "SeatsRound$Law" "fault" "I") (List.mem_of_getElem? (i := 2) rfl)) (fun _ h9 => h9) rfl (tyX3_ok 3 (by decide)) rfl rfl (Nat.le_of_ble_eq_true rfl) (oC_13_3 _ _ _ _ _ _) h dX3_readPart_84 (fun σ22 H locs h hP hD hS => ?_)
          refine lv_iconst (v := 0) hx hb dX3_readPart_87 (by decide) ?_
          exact ux_iret hx hb hr h hP hD hS hlocks dX3_readPart_88
      · have h := cdN hcd h
        exact w50 σ H locs ls h hP hD hS (lv_sub hl [0] rfl)
  have w0 : ∀ (σ : S2) (x2 : Int32) (H : Heap) (locs : List Loc) (ls : Array Slot), fX3_readPart_0 τ σ x2 = some (r0, σ9) → va_P (dC, dI) vwCl (wG (cC cy ad τ) ad (182 + 6 * nb) σ) H → va_D A (wG (cC cy ad τ) ad (182 + 6 * nb) σ) → va_S A s.heap H locs → lv_has ls 5 [(0, .ref (ad 13)), (1, .ref (ad 182)), (2, .int x2)] → W p l e (headSpec wsX3_readPart ({ frames := 28, cells := 0, slots := 0, locals := 690 })).room s m (#[.ref (ad 13), .ref (ad 182), .int a2]) below meth c H locs 0 0 (MQ below (va_Qi (fun (r : Int32) (_ : Unit) => r = r0) (fun (_ : Unit) t => wAt (dC, dI) A (wG (cC cy ad τ) ad (182 + 6 * nb) σ9) t) A) (#[.ref (ad 13), .ref (ad 182), .int a2]) s 0 0 A) (F0 m 0 ls []) := by
    intro σ x2 H locs ls h hP hD hS hl
    unfold fX3_readPart_0 at h
    refine lv_aload_n hx hb dX3_readPart_0 rfl (lv_at hl 0 rfl) ?_
    obtain ⟨r23, hf24, h⟩ := biS h
    refine ux_calli (va_runV (As := []) (rest := []) ⟨hx, hb, hml, hown, hts⟩ (tX3_sign l dC dI cy ad τ nb hτ σ H.size r23 hf24) (cwV 0 hts gX3_readPart_X3_sign rfl rfl rfl (by decide +kernel) ⟨Nat.le_of_ble_eq_true rfl, Nat.le_of_ble_eq_true rfl⟩) (wp_V hK hN hP hD (va_recv hK hP (ci := 3) (q0 := 13) rfl (wG_of (Nat.lt_of_lt_of_le (Nat.le_of_ble_eq_true rfl : 13 < 182) (Nat.le_add_right _ _)) (cC_13 _ _ _ _ _)))) rfl rfl hl.1 rfl (lv_room (Nat.le_of_ble_eq_true rfl)) dX3_readPart_1 ⟨Nat.le_of_ble_eq_true rfl, Nat.le_of_ble_eq_true rfl⟩) hD hS hA (fun H locs hP hD hS => ?_)
    refine lv_istore_n (lv' := [(3, .int r23), (0, .ref (ad 13)), (1, .ref (ad 182)), (2, .int x2)]) hx hb dX3_readPart_4 rfl hl (by decide) rfl (fun ls hl => ?_)
    have hl := lv_sub hl [1, 2, 3, 0] (l' := [(0, .ref (ad 13)), (1, .ref (ad 182)), (2, .int x2), (3, .int r23)]) rfl
    refine lv_iload_n hx hb dX3_readPart_5 rfl (lv_at hl 3 rfl) ?_
    refine lv_bipush (v := 99) hx hb dX3_readPart_6 (by decide) ?_
    refine lv_icmp_ne (tgt := 15) hx hb dX3_readPart_8 (by decide) (fun hcd => ?_) (fun hcd => ?_)
    · have h := cdN hcd h
      refine lv_iload_n hx hb dX3_readPart_15 rfl (lv_at hl 3 rfl) ?_
      refine lv_bipush (v := 115) hx hb dX3_readPart_16 (by decide) ?_
      refine lv_icmp_ne (tgt := 25) hx hb dX3_readPart_18 (by decide) (fun hcd => ?_) (fun hcd => ?_)
      · have h := cdN hcd h
        refine lv_iload_n hx hb dX3_readPart_25 rfl (lv_at hl 3 rfl) ?_
        refine lv_bipush (v := 112) hx hb dX3_readPart_26 (by decide) ?_
        refine lv_icmp_ne (tgt := 35) hx hb dX3_readPart_28 (by decide) (fun hcd => ?_) (fun hcd => ?_)
        · have h := cdN hcd h
          refine lv_iconst (v := 0) hx hb dX3_readPart_35 (by decide) ?_
          exact w36 σ x2 r23 0 H locs ls h hP hD hS hl
        · have h := cdP hcd h
          refine lv_iconst (v := 4) hx hb dX3_readPart_31 (by decide) ?_
          refine lv_goto (tgt := 36) hx hb dX3_readPart_32 (by decide) ?_
          exact w36 σ x2 r23 4 H locs ls h hP hD hS hl
      · have h := cdP hcd h
        refine lv_iconst (v := 2) hx hb dX3_readPart_21 (by decide) ?_
        refine lv_goto (tgt := 36) hx hb dX3_readPart_22 (by decide) ?_
        exact w36 σ x2 r23 2 H locs ls h hP hD hS hl
    · have h := cdP hcd h
      refine lv_iconst (v := 1) hx hb dX3_readPart_11 (by decide) ?_
      refine lv_goto (tgt := 36) hx hb dX3_readPart_12 (by decide) ?_
      exact w36 σ x2 r23 1 H locs ls h hP hD hS hl
  intro H locs ls h hP hD hS hl
  exact w0 σ a2 H locs ls h hP hD hS (lv_sub hl [0, 1, 2] rfl)

set_option maxHeartbeats 4000000 in
set_option maxRecDepth 100000 in
theorem tX3_workOut (l : Launch) (dC : Nat → ClassId) (dI : Nat → Nat → Nat) (cy : Nat → ClassId) (ad : Nat → Nat) (τ nb : Nat) (hτ : τ < nb) (σ : S2)  (sz : Nat) (r0 : Int32) (σ9 : S2) (h : fX3_workOut τ σ = some (r0, σ9)) : Met l yX3_workOut wsX3_workOut ({ frames := 29, cells := 0, slots := 0, locals := 714 }) (va_Pc [.ref (ad 13), .ref (ad 182), .ref (ad 7)] (wPre (dC, dI) cy (wG (cC cy ad τ) ad (182 + 6 * nb) σ) sz)) (va_Qi (fun (r : Int32) (_ : Unit) => r = r0) (fun (_ : Unit) t => wAt (dC, dI) (va_A (wG (cC cy ad τ) ad (182 + 6 * nb) σ) sz) (wG (cC cy ad τ) ad (182 + 6 * nb) σ9) t) (va_A (wG (cC cy ad τ) ad (182 + 6 * nb) σ) sz)) 0 0 (va_A (wG (cC cy ad τ) ad (182 + 6 * nb) σ) sz) := by
  refine Met.ofW (cc := cX3_workOut) (maxL := 5) (ret := (some .int)) (by decide) rfl ?_
  intro p e s m args below meth c s₁ B hml hv
  obtain ⟨rfl, hsz, hP, hK, hD0, hN⟩ := hv
  have hx := B.exec
  have hb := B.bytes
  have hr := B.returns
  have hts := atoms_spec (ws := wsX3_workOut) B.pre
  have hown : s.vm.findClass RX3 = some m.cls := findClass_of_methodNamed B.named
  have hlocks := B.notSynchronized
  subst hsz
  have hD := hD0.self (sz := s.heap.size)
  generalize hAe : va_A (wG (cC cy ad τ) ad (182 + 6 * nb) σ) s.heap.size = A at hD ⊢
  have hA : ∀ q : Nat, s.heap.size ≤ q → A q := fun q h => by rw [← hAe]; exact Or.inr h
  have hS : va_S A s.heap s.heap [] := va_S.rf
  have hl := lv_entry ([.ref (ad 13), .ref (ad 182), .ref (ad 7)]) (n := 5) (Nat.le_of_ble_eq_true rfl)
  rw [lg_entry_eq]
  generalize (lg_sl ([.ref (ad 13), .ref (ad 182), .ref (ad 7)]) ++ List.replicate (5 - (lg_sl ([.ref (ad 13), .ref (ad 182), .ref (ad 7)])).length) Slot.unset).toArray = ls at hl ⊢
  have hl : lv_has ls 5 [(0, .ref (ad 13)), (1, .ref (ad 182)), (2, .ref (ad 7))] := hl
  unfold fX3_workOut at h
  clear hAe hD0
  suffices HH : ∀ (H : Heap) (locs : List Loc) (ls : Array Slot), fX3_workOut_0 τ σ = some (r0, σ9) → va_P (dC, dI) vwCl (wG (cC cy ad τ) ad (182 + 6 * nb) σ) H → va_D A (wG (cC cy ad τ) ad (182 + 6 * nb) σ) → va_S A s.heap H locs → lv_has ls 5 [(0, .ref (ad 13)), (1, .ref (ad 182)), (2, .ref (ad 7))] → W p l e (headSpec wsX3_workOut ({ frames := 29, cells := 0, slots := 0, locals := 714 })).room s m (#[.ref (ad 13), .ref (ad 182), .ref (ad 7)]) below meth c H locs 0 0 (MQ below (va_Qi (fun (r : Int32) (_ : Unit) => r = r0) (fun (_ : Unit) t => wAt (dC, dI) A (wG (cC cy ad τ) ad (182 + 6 * nb) σ9) t) A) (#[.ref (ad 13), .ref (ad 182), .ref (ad 7)]) s 0 0 A) (F0 m 0 ls []) from HH s.heap [] ls h hP hD hS hl
  have w141 : ∀ (σ : S2)  (H : Heap) (locs : List Loc) (ls : Array Slot), fX3_workOut_141 τ σ = some (r0, σ9) → va_P (dC, dI) vwCl (wG (cC cy ad τ) ad (182 + 6 * nb) σ) H → va_D A (wG (cC cy ad τ) ad (182 + 6 * nb) σ) → va_S A s.heap H locs → lv_has ls 5 [(0, .ref (ad 13))] → W p l e (headSpec wsX3_workOut ({ frames := 29, cells := 0, slots := 0, locals := 714 })).room s m (#[.ref (ad 13), .ref (ad 182), .ref (ad 7)]) below meth c H locs 0 0 (MQ below (va_Qi (fun (r : Int32) (_ : Unit) => r = r0) (fun (_ : Unit) t => wAt (dC, dI) A (wG (cC cy ad τ) ad (182 + 6 * nb) σ9) t) A) (#[.ref (ad 13), .ref (ad 182), .ref (ad 7)]) s 0 0 A) (F0 m 141 ls []) := by
    intro σ H locs ls h hP hD hS hl
    unfold fX3_workOut_141 at h
    refine lv_aload_n hx hb dX3_workOut_141 rfl (lv_at hl 0 rfl) ?_
    refine ux_get (D := (dC, dI)) (ci := 3) (v := .int (σ.1 13 3)) (C := RX3) (T := TX3) (M := 8) (fs := (oLW ad (σ.1 13))) hx hb hts (fun _ h9 => List.mem_cons_of_mem _ (List.mem_append_left _ (List.mem_append_right _ h9))) hown hK hP 13 (Nat.lt_of_lt_of_le (Nat.le_of_ble_eq_true rfl : 13 < 182) (Nat.le_add_right _ _)) (cC_13 _ _ _ _ _) rfl 3 (by decide) (hts (.fieldLink RX3 22 "SeatsRound$Law" "fault" "I") (List.mem_of_getElem? (i := 6) rfl)) (fun _ h9 => h9) rfl dX3_workOut_142 ?_
    exact ux_iret hx hb hr h hP hD hS hlocks dX3_workOut_145
  have w135 : ∀ (k52 : S2 → Int32 → Int32 → Option (Int32 × S2)) (hk52 : ∀ (σ : S2) (x3 : Int32) (x4 : Int32) (H : Heap) (locs : List Loc) (ls : Array Slot), k52 σ x3 x4 = some (r0, σ9) → va_P (dC, dI) vwCl (wG (cC cy ad τ) ad (182 + 6 * nb) σ) H → va_D A (wG (cC cy ad τ) ad (182 + 6 * nb) σ) → va_S A s.heap H locs → lv_has ls 5 [(0, .ref (ad 13)), (1, .ref (ad 182)), (3, .int x3), (4, .int x4)] → W p l e (headSpec wsX3_workOut ({ frames := 29, cells := 0, slots := 0, locals := 714 })).room s m (#[.ref (ad 13), .ref (ad 182), .ref (ad 7)]) below meth c H locs 0 0 (MQ below (va_Qi (fun (r : Int32) (_ : Unit) => r = r0) (fun (_ : Unit) t => wAt (dC, dI) A (wG (cC cy ad τ) ad (182 + 6 * nb) σ9) t) A) (#[.ref (ad 13), .ref (ad 182), .ref (ad 7)]) s 0 0 A) (F0 m 52 ls [])) , ∀ (σ : S2) (x3 : Int32) (x4 : Int32) (H : Heap) (locs : List Loc) (ls : Array Slot), fX3_workOut_135 τ k52 σ x3 x4 = some (r0, σ9) → va_P (dC, dI) vwCl (wG (cC cy ad τ) ad (182 + 6 * nb) σ) H → va_D A (wG (cC cy ad τ) ad (182 + 6 * nb) σ) → va_S A s.heap H locs → lv_has ls 5 [(0, .ref (ad 13)), (1, .ref (ad 182)), (3, .int x3), (4, .int x4)] → W p l e (headSpec wsX3_workOut ({ frames := 29, cells := 0, slots := 0, locals := 714 })).room s m (#[.ref (ad 13), .ref (ad 182), .ref (ad 7)]) below meth c H locs 0 0 (MQ below (va_Qi (fun (r : Int32) (_ : Unit) => r = r0) (fun (_ : Unit) t => wAt (dC, dI) A (wG (cC cy ad τ) ad (182 + 6 * nb) σ9) t) A) (#[.ref (ad 13), .ref (ad 182), .ref (ad 7)]) s 0 0 A) (F0 m 135 ls []) := by
    intro k52 hk52 σ x3 x4 H locs ls h hP hD hS hl
    unfold fX3_workOut_135 at h
    obtain ⟨v1, ev1⟩ : ∃ y : Int32, y = x4 + 1 := ⟨_, rfl⟩
    have h := nmS h ev1
    refine lv_iinc (v := v1) (lv' := [(4, .int v1), (0, .ref (ad 13)), (1, .ref (ad 182)), (3, .int x3)]) hx hb dX3_workOut_135 hl (k := 3) rfl (by rw [ev1]; rfl) (by decide) rfl (fun ls hl => ?_)
    have hl := lv_sub hl [1, 2, 3, 0] (l' := [(0, .ref (ad 13)), (1, .ref (ad 182)), (3, .int x3), (4, .int v1)]) rfl
    refine lv_goto (tgt := 52) hx hb dX3_workOut_138 (by decide) ?_
    exact hk52 σ x3 v1 H locs ls h hP hD hS hl
  have w127 : ∀ (k52 : S2 → Int32 → Int32 → Option (Int32 × S2)) (hk52 : ∀ (σ : S2) (x3 : Int32) (x4 : Int32) (H : Heap) (locs : List Loc) (ls : Array Slot), k52 σ x3 x4 = some (r0, σ9) → va_P (dC, dI) vwCl (wG (cC cy ad τ) ad (182 + 6 * nb) σ) H → va_D A (wG (cC cy ad τ) ad (182 + 6 * nb) σ) → va_S A s.heap H locs → lv_has ls 5 [(0, .ref (ad 13)), (1, .ref (ad 182)), (3, .int x3), (4, .int x4)] → W p l e (headSpec wsX3_workOut ({ frames := 29, cells := 0, slots := 0, locals := 714 })).room s m (#[.ref (ad 13), .ref (ad 182), .ref (ad 7)]) below meth c H locs 0 0 (MQ below (va_Qi (fun (r : Int32) (_ : Unit) => r = r0) (fun (_ : Unit) t => wAt (dC, dI) A (wG (cC cy ad τ) ad (182 + 6 * nb) σ9) t) A) (#[.ref (ad 13), .ref (ad 182), .ref (ad 7)]) s 0 0 A) (F0 m 52 ls [])) , ∀ (σ : S2) (x3 : Int32) (x4 : Int32) (H : Heap) (locs : List Loc) (ls : Array Slot), fX3_workOut_127 τ k52 σ x3 x4 = some (r0, σ9) → va_P (dC, dI) vwCl (wG (cC cy ad τ) ad (182 + 6 * nb) σ) H → va_D A (wG (cC cy ad τ) ad (182 + 6 * nb) σ) → va_S A s.heap H locs → lv_has ls 5 [(0, .ref (ad 13)), (1, .ref (ad 182)), (3, .int x3), (4, .int x4)] → W p l e (headSpec wsX3_workOut ({ frames := 29, cells := 0, slots := 0, locals := 714 })).room s m (#[.ref (ad 13), .ref (ad 182), .ref (ad 7)]) below meth c H locs 0 0 (MQ below (va_Qi (fun (r : Int32) (_ : Unit) => r = r0) (fun (_ : Unit) t => wAt (dC, dI) A (wG (cC cy ad τ) ad (182 + 6 * nb) σ9) t) A) (#[.ref (ad 13), .ref (ad 182), .ref (ad 7)]) s 0 0 A) (F0 m 127 ls []) := by
    intro k52 hk52 σ x3 x4 H locs ls h hP hD hS hl
    unfold fX3_workOut_127 at h
    refine lv_aload_n hx hb dX3_workOut_127 rfl (lv_at hl 0 rfl) ?_
    refine lv_aload_n hx hb dX3_workOut_128 rfl (lv_at hl 0 rfl) ?_
    refine ux_get (D := (dC, dI)) (ci := 3) (v := .int (σ.1 13 2)) (C := RX3) (T := TX3) (M := 8) (fs := (oLW ad (σ.1 13))) hx hb hts (fun _ h9 => List.mem_cons_of_mem _ (List.mem_append_left _ (List.mem_append_right _ h9))) hown hK hP 13 (Nat.lt_of_lt_of_le (Nat.le_of_ble_eq_true rfl : 13 < 182) (Nat.le_add_right _ _)) (cC_13 _ _ _ _ _) rfl 2 (by decide) (hts (.fieldLink RX3 19 "SeatsRound$Law" "at" "I") (List.mem_of_getElem? (i := 5) rfl)) (fun _ h9 => h9) rfl dX3_workOut_129 ?_
    refine ux_put (D := (dC, dI)) (ci := 3) (C := RX3) (T := TX3) (M := 8) (fs := (oLW ad (σ.1 13))) hx hb hts (fun _ h9 => List.mem_cons_of_mem _ (List.mem_append_left _ (List.mem_append_right _ h9))) tyX3 tyX3_ok nmX3 hown hK hP hD hS 13 (Nat.lt_of_lt_of_le (Nat.le_of_ble_eq_true rfl : 13 < 182) (Nat.le_add_right _ _)) (cC_13 _ _ _ _ _) rfl 3 (by decide) (hts (.fieldLink RX3 22 "SeatsRound$Law" "fault" "I") (List.mem_of_getElem? (i := 6) rfl)) (fun _ h9 => h9) rfl (tyX3_ok 3 (by decide)) rfl rfl (Nat.le_of_ble_eq_true rfl) (oC_13_3 _ _ _ _ _ _) h dX3_workOut_132 (fun σ2 H locs h hP hD hS => ?_)
    exact w135 _ hk52 σ2 x3 x4 H locs ls h hP hD hS hl
  have w52 : ∀ (n : Nat), ∀ (σ : S2) (x3 : Int32) (x4 : Int32) (H : Heap) (locs : List Loc) (ls : Array Slot), fX3_workOut_52 τ n σ x3 x4 = some (r0, σ9) → va_P (dC, dI) vwCl (wG (cC cy ad τ) ad (182 + 6 * nb) σ) H → va_D A (wG (cC cy ad τ) ad (182 + 6 * nb) σ) → va_S A s.heap H locs → lv_has ls 5 [(0, .ref (ad 13)), (1, .ref (ad 182)), (3, .int x3), (4, .int x4)] → W p l e (headSpec wsX3_workOut ({ frames := 29, cells := 0, slots := 0, locals := 714 })).room s m (#[.ref (ad 13), .ref (ad 182), .ref (ad 7)]) below meth c H locs 0 0 (MQ below (va_Qi (fun (r : Int32) (_ : Unit) => r = r0) (fun (_ : Unit) t => wAt (dC, dI) A (wG (cC cy ad τ) ad (182 + 6 * nb) σ9) t) A) (#[.ref (ad 13), .ref (ad 182), .ref (ad 7)]) s 0 0 A) (F0 m 52 ls []) := by
    intro n
    induction n with
    | zero => intro σ x3 x4 H locs ls h; cases h
    | succ n ih =>
    intro σ x3 x4 H locs ls h hP hD hS hl
    unfold fX3_workOut_52 at h
    refine lv_iload hx hb dX3_workOut_52 (lv_at hl 3 rfl) ?_
    refine lv_iconst (v := 3) hx hb dX3_workOut_54 (by decide) ?_
    refine lv_icmp_ge (tgt := 141) hx hb dX3_workOut_55 (by decide) (fun hcd => ?_) (fun hcd => ?_)
    · have h := cdP hcd h
      exact w141 σ H locs ls h hP hD hS (lv_sub hl [0] rfl)
    · have h := cdN hcd h
      refine lv_aload_n hx hb dX3_workOut_58 rfl (lv_at hl 0 rfl) ?_
      refine ux_get (D := (dC, dI)) (ci := 3) (v := .int (σ.1 13 3)) (C := RX3) (T := TX3) (M := 8) (fs := (oLW ad (σ.1 13))) hx hb hts (fun _ h9 => List.mem_cons_of_mem _ (List.mem_append_left _ (List.mem_append_right _ h9))) hown hK hP 13 (Nat.lt_of_lt_of_le (Nat.le_of_ble_eq_true rfl : 13 < 182) (Nat.le_add_right _ _)) (cC_13 _ _ _ _ _) rfl 3 (by decide) (hts (.fieldLink RX3 22 "SeatsRound$Law" "fault" "I") (List.mem_of_getElem? (i := 6) rfl)) (fun _ h9 => h9) rfl dX3_workOut_59 ?_
      refine lv_iconst (v := (-1)) hx hb dX3_workOut_62 (by decide) ?_
      refine lv_icmp_ne (tgt := 141) hx hb dX3_workOut_63 (by decide) (fun hcd => ?_) (fun hcd => ?_)
      · have h := cdN hcd h
        exact w141 σ H locs ls h hP hD hS (lv_sub hl [0] rfl)
      · have h := cdP hcd h
        refine lv_iload_n hx hb dX3_workOut_66 rfl (lv_at hl 2 rfl) ?_
        refine lv_aload_n hx hb dX3_workOut_67 rfl (lv_at hl 0 rfl) ?_
        refine lv_aload_n hx hb dX3_workOut_68 rfl (lv_at hl 1 rfl) ?_
        refine lv_iload_n hx hb dX3_workOut_69 rfl (lv_at hl 2 rfl) ?_
        obtain ⟨r3, σ4, hf5, h⟩ := bsS h
        refine ux_calli (va_runV (As := [.ref (ad 182), .int x3]) (rest := [.int x3]) ⟨hx, hb, hml, hown, hts⟩ (tX3_readPart l dC dI cy ad τ nb hτ σ x3 H.size r3 σ4 hf5) (cwV 2 hts gX3_workOut_X3_readPart rfl rfl rfl (by decide +kernel) ⟨Nat.le_of_ble_eq_true rfl, Nat.le_of_ble_eq_true rfl⟩) (wp_V hK hN hP hD (va_recv hK hP (ci := 3) (q0 := 13) rfl (wG_of (Nat.lt_of_lt_of_le (Nat.le_of_ble_eq_true rfl : 13 < 182) (Nat.le_add_right _ _)) (cC_13 _ _ _ _ _)))) rfl rfl hl.1 rfl (lv_room (Nat.le_of_ble_eq_true rfl)) dX3_workOut_70 ⟨Nat.le_of_ble_eq_true rfl, Nat.le_of_ble_eq_true rfl⟩) hD hS hA (fun H locs hP hD hS => ?_)
        refine lv_ior hx hb dX3_workOut_73 ?_
        refine lv_topi (fun v6 ev6 => ?_)
        have h := nmS h ev6
        refine lv_istore_n (lv' := [(3, .int v6), (0, .ref (ad 13)), (1, .ref (ad 182)), (4, .int x4)]) hx hb dX3_workOut_74 rfl hl (by decide) rfl (fun ls hl => ?_)
        have hl := lv_sub hl [1, 2, 0, 3] (l' := [(0, .ref (ad 13)), (1, .ref (ad 182)), (3, .int v6), (4, .int x4)]) rfl
        refine lv_aload_n hx hb dX3_workOut_75 rfl (lv_at hl 0 rfl) ?_
        refine ux_get (D := (dC, dI)) (ci := 3) (v := .int (σ4.1 13 3)) (C := RX3) (T := TX3) (M := 8) (fs := (oLW ad (σ4.1 13))) hx hb hts (fun _ h9 => List.mem_cons_of_mem _ (List.mem_append_left _ (List.mem_append_right _ h9))) hown hK hP 13 (Nat.lt_of_lt_of_le (Nat.le_of_ble_eq_true rfl : 13 < 182) (Nat.le_add_right _ _)) (cC_13 _ _ _ _ _) rfl 3 (by decide) (hts (.fieldLink RX3 22 "SeatsRound$Law" "fault" "I") (List.mem_of_getElem? (i := 6) rfl)) (fun _ h9 => h9) rfl dX3_workOut_76 ?_
        refine lv_iconst (v := (-1)) hx hb dX3_workOut_79 (by decide) ?_
        refine lv_icmp_ne (tgt := 141) hx hb dX3_workOut_80 (by decide) (fun hcd => ?_) (fun hcd => ?_)
        · have h := cdN hcd h
          exact w141 σ4 H locs ls h hP hD hS (lv_sub hl [0] rfl)
        · have h := cdP hcd h
          refine lv_aload_n hx hb dX3_workOut_83 rfl (lv_at hl 0 rfl) ?_
          refine ux_get (D := (dC, dI)) (ci := 3) (v := .int (σ4.1 13 2)) (C := RX3) (T := TX3) (M := 8) (fs := (oLW ad (σ4.1 13))) hx hb hts (fun _ h9 => List.mem_cons_of_mem _ (List.mem_append_left _ (List.mem_append_right _ h9))) hown hK hP 13 (Nat.lt_of_lt_of_le (Nat.le_of_ble_eq_true rfl : 13 < 182) (Nat.le_add_right _ _)) (cC_13 _ _ _ _ _) rfl 2 (by decide) (hts (.fieldLink RX3 19 "SeatsRound$Law" "at" "I") (List.mem_of_getElem? (i := 5) rfl)) (fun _ h9 => h9) rfl dX3_workOut_84 ?_
          refine lv_aload_n hx hb dX3_workOut_87 rfl (lv_at hl 0 rfl) ?_
          refine ux_get (D := (dC, dI)) (ci := 3) (v := .int (σ4.1 13 1)) (C := RX3) (T := TX3) (M := 8) (fs := (oLW ad (σ4.1 13))) hx hb hts (fun _ h9 => List.mem_cons_of_mem _ (List.mem_append_left _ (List.mem_append_right _ h9))) hown hK hP 13 (Nat.lt_of_lt_of_le (Nat.le_of_ble_eq_true rfl : 13 < 182) (Nat.le_add_right _ _)) (cC_13 _ _ _ _ _) rfl 1 (by decide) (hts (.fieldLink RX3 15 "SeatsRound$Law" "length" "I") (List.mem_of_getElem? (i := 4) rfl)) (fun _ h9 => h9) rfl dX3_workOut_88 ?_
          refine lv_icmp_lt (tgt := 97) hx hb dX3_workOut_91 (by decide) (fun hcd => ?_) (fun hcd => ?_)
          · have h := cdP hcd h
            refine lv_aload_n hx hb dX3_workOut_97 rfl (lv_at hl 0 rfl) ?_
            obtain ⟨r7, hf8, h⟩ := biS h
            refine ux_calli (va_runV (As := []) (rest := []) ⟨hx, hb, hml, hown, hts⟩ (tX3_sign l dC dI cy ad τ nb hτ σ4 H.size r7 hf8) (cwV 0 hts gX3_workOut_X3_sign rfl rfl rfl (by decide +kernel) ⟨Nat.le_of_ble_eq_true rfl, Nat.le_of_ble_eq_true rfl⟩) (wp_V hK hN hP hD (va_recv hK hP (ci := 3) (q0 := 13) rfl (wG_of (Nat.lt_of_lt_of_le (Nat.le_of_ble_eq_true rfl : 13 < 182) (Nat.le_add_right _ _)) (cC_13 _ _ _ _ _)))) rfl rfl hl.1 rfl (lv_room (Nat.le_of_ble_eq_true rfl)) dX3_workOut_98 ⟨Nat.le_of_ble_eq_true rfl, Nat.le_of_ble_eq_true rfl⟩) hD hS hA (fun H locs hP hD hS => ?_)
            refine lv_bipush (v := 59) hx hb dX3_workOut_101 (by decide) ?_
            refine lv_icmp_ne (tgt := 127) hx hb dX3_workOut_103 (by decide) (fun hcd => ?_) (fun hcd => ?_)
            · have h := cdN hcd h
              exact w127 _ ih σ4 v6 x4 H locs ls h hP hD hS hl
            · have h := cdP hcd h
              refine lv_iload hx hb dX3_workOut_106 (lv_at hl 3 rfl) ?_
              refine lv_iconst (v := 1) hx hb dX3_workOut_108 (by decide) ?_
              refine lv_iadd hx hb dX3_workOut_109 ?_
              refine lv_iconst (v := 3) hx hb dX3_workOut_110 (by decide) ?_
              refine lv_icmp_ge (tgt := 127) hx hb dX3_workOut_111 (by decide) (fun hcd => ?_) (fun hcd => ?_)
              · have h := cdP hcd h
                exact w127 _ ih σ4 v6 x4 H locs ls h hP hD hS hl
              · have h := cdN hcd h
                refine lv_aload_n hx hb dX3_workOut_114 rfl (lv_at hl 0 rfl) ?_
                refine lv_dup hx hb dX3_workOut_115 rfl ?_
                refine ux_get (D := (dC, dI)) (ci := 3) (v := .int (σ4.1 13 2)) (C := RX3) (T := TX3) (M := 8) (fs := (oLW ad (σ4.1 13))) hx hb hts (fun _ h9 => List.mem_cons_of_mem _ (List.mem_append_left _ (List.mem_append_right _ h9))) hown hK hP 13 (Nat.lt_of_lt_of_le (Nat.le_of_ble_eq_true rfl : 13 < 182) (Nat.le_add_right _ _)) (cC_13 _ _ _ _ _) rfl 2 (by decide) (hts (.fieldLink RX3 19 "SeatsRound$Law" "at" "I") (List.mem_of_getElem? (i := 5) rfl)) (fun _ h9 => h9) rfl dX3_workOut_116 ?_
                refine lv_iconst (v := 1) hx hb dX3_workOut_119 (by decide) ?_
                refine lv_iadd hx hb dX3_workOut_120 ?_
                refine ux_put (D := (dC, dI)) (ci := 3) (C := RX3) (T := TX3) (M := 8) (fs := (oLW ad (σ4.1 13))) hx hb hts (fun _ h9 => List.mem_cons_of_mem _ (List.mem_append_left _ (List.mem_append_right _ h9))) tyX3 tyX3_ok nmX3 hown hK hP hD hS 13 (Nat.lt_of_lt_of_le (Nat.le_of_ble_eq_true rfl : 13 < 182) (Nat.le_add_right _ _)) (cC_13 _ _ _ _ _) rfl 2 (by decide) (hts (.fieldLink RX3 19 "SeatsRound$Law" "at" "I") (List.mem_of_getElem? (i := 5) rfl)) (fun _ h9 => h9) rfl (tyX3_ok 2 (by decide)) rfl rfl (Nat.le_of_ble_eq_true rfl) (oC_13_2 _ _ _ _ _ _) h dX3_workOut_121 (fun σ9 H locs h hP hD hS => ?_)
                refine lv_goto (tgt := 135) hx hb dX3_workOut_124 (by decide) ?_
                exact w135 _ ih σ9 v6 x4 H locs ls h hP hD hS hl
          · have h := cdN hcd h
            refine lv_goto (tgt := 141) hx hb dX3_workOut_94 (by decide) ?_
            exact w141 σ4 H locs ls h hP hD hS (lv_sub hl [0] rfl)
  have w0 : ∀ (σ : S2)  (H : Heap) (locs : List Loc) (ls : Array Slot), fX3_workOut_0 τ σ = some (r0, σ9) → va_P (dC, dI) vwCl (wG (cC cy ad τ) ad (182 + 6 * nb) σ) H → va_D A (wG (cC cy ad τ) ad (182 + 6 * nb) σ) → va_S A s.heap H locs → lv_has ls 5 [(0, .ref (ad 13)), (1, .ref (ad 182)), (2, .ref (ad 7))] → W p l e (headSpec wsX3_workOut ({ frames := 29, cells := 0, slots := 0, locals := 714 })).room s m (#[.ref (ad 13), .ref (ad 182), .ref (ad 7)]) below meth c H locs 0 0 (MQ below (va_Qi (fun (r : Int32) (_ : Unit) => r = r0) (fun (_ : Unit) t => wAt (dC, dI) A (wG (cC cy ad τ) ad (182 + 6 * nb) σ9) t) A) (#[.ref (ad 13), .ref (ad 182), .ref (ad 7)]) s 0 0 A) (F0 m 0 ls []) := by
    intro σ H locs ls h hP hD hS hl
    unfold fX3_workOut_0 at h
    refine lv_aload_n hx hb dX3_workOut_0 rfl (lv_at hl 0 rfl) ?_
    refine lv_aload_n hx hb dX3_workOut_1 rfl (lv_at hl 1 rfl) ?_
    refine ux_get (D := (dC, dI)) (ci := 8) (v := .ref (ad 185)) (C := RX8) (T := TX8) (M := 13) (fs := (oTB ad (182) (σ.1 (182)))) hx hb hts (fun _ h9 => List.mem_cons_of_mem _ (List.mem_append_left _ (List.mem_append_left _ (List.mem_append_right _ h9)))) hown hK hP 182 (by omega) (cC_t0 _ _ _ _ _ 0) rfl 10 (by decide) (hts (.fieldLink RX3 37 "SeatsRound$Table" "law" "[B") (List.mem_of_getElem? (i := 1) rfl)) (fun _ h9 => h9) rfl dX3_workOut_2 ?_
    refine ux_putV (D := (dC, dI)) (ci := 3) (C := RX3) (T := TX3) (M := 8) (fs := (oLW ad (σ.1 13))) (v := .ref (ad 185)) (g9 := upd (σ.1 13) 0 1) hx hb hts (fun _ h9 => List.mem_cons_of_mem _ (List.mem_append_left _ (List.mem_append_right _ h9))) tyX3 tyX3_ok nmX3 hown hK hP hD hS 13 (Nat.lt_of_lt_of_le (Nat.le_of_ble_eq_true rfl : 13 < 182) (Nat.le_add_right _ _)) (cC_13 _ _ _ _ _) rfl 0 (by decide) (hts (.fieldLink RX3 9 "SeatsRound$Law" "text" "[B") (List.mem_of_getElem? (i := 2) rfl)) (fun _ h9 => h9) rfl (tyX3_ok 0 (by decide)) rfl rfl (Nat.le_of_ble_eq_true rfl) (oC_text _ _ _ _ _) h dX3_workOut_5 (fun σ10 H locs h hP hD hS => ?_)
    refine lv_aload_n hx hb dX3_workOut_8 rfl (lv_at hl 0 rfl) ?_
    refine lv_aload_n hx hb dX3_workOut_9 rfl (lv_at hl 1 rfl) ?_
    refine ux_get (D := (dC, dI)) (ci := 8) (v := .int (σ10.1 182 6)) (C := RX8) (T := TX8) (M := 13) (fs := (oTB ad (182) (σ10.1 (182)))) hx hb hts (fun _ h9 => List.mem_cons_of_mem _ (List.mem_append_left _ (List.mem_append_left _ (List.mem_append_right _ h9)))) hown hK hP 182 (by omega) (cC_t0 _ _ _ _ _ 0) rfl 6 (by decide) (hts (.fieldLink RX3 42 "SeatsRound$Table" "lawLength" "I") (List.mem_of_getElem? (i := 3) rfl)) (fun _ h9 => h9) rfl dX3_workOut_10 ?_
    refine ux_put (D := (dC, dI)) (ci := 3) (C := RX3) (T := TX3) (M := 8) (fs := (oLW ad (σ10.1 13))) hx hb hts (fun _ h9 => List.mem_cons_of_mem _ (List.mem_append_left _ (List.mem_append_right _ h9))) tyX3 tyX3_ok nmX3 hown hK hP hD hS 13 (Nat.lt_of_lt_of_le (Nat.le_of_ble_eq_true rfl : 13 < 182) (Nat.le_add_right _ _)) (cC_13 _ _ _ _ _) rfl 1 (by decide) (hts (.fieldLink RX3 15 "SeatsRound$Law" "length" "I") (List.mem_of_getElem? (i := 4) rfl)) (fun _ h9 => h9) rfl (tyX3_ok 1 (by decide)) rfl rfl (Nat.le_of_ble_eq_true rfl) (oC_13_1 _ _ _ _ _ _) h dX3_workOut_13 (fun σ11 H locs h hP hD hS => ?_)
    refine lv_aload_n hx hb dX3_workOut_16 rfl (lv_at hl 0 rfl) ?_
    refine lv_iconst (v := 0) hx hb dX3_workOut_17 (by decide) ?_
    refine ux_put (D := (dC, dI)) (ci := 3) (C := RX3) (T := TX3) (M := 8) (fs := (oLW ad (σ11.1 13))) hx hb hts (fun _ h9 => List.mem_cons_of_mem _ (List.mem_append_left _ (List.mem_append_right _ h9))) tyX3 tyX3_ok nmX3 hown hK hP hD hS 13 (Nat.lt_of_lt_of_le (Nat.le_of_ble_eq_true rfl : 13 < 182) (Nat.le_add_right _ _)) (cC_13 _ _ _ _ _) rfl 2 (by decide) (hts (.fieldLink RX3 19 "SeatsRound$Law" "at" "I") (List.mem_of_getElem? (i := 5) rfl)) (fun _ h9 => h9) rfl (tyX3_ok 2 (by decide)) rfl rfl (Nat.le_of_ble_eq_true rfl) (oC_13_2 _ _ _ _ _ _) h dX3_workOut_18 (fun σ12 H locs h hP hD hS => ?_)
    refine lv_aload_n hx hb dX3_workOut_21 rfl (lv_at hl 0 rfl) ?_
    refine lv_iconst (v := (-1)) hx hb dX3_workOut_22 (by decide) ?_
    refine ux_put (D := (dC, dI)) (ci := 3) (C := RX3) (T := TX3) (M := 8) (fs := (oLW ad (σ12.1 13))) hx hb hts (fun _ h9 => List.mem_cons_of_mem _ (List.mem_append_left _ (List.mem_append_right _ h9))) tyX3 tyX3_ok nmX3 hown hK hP hD hS 13 (Nat.lt_of_lt_of_le (Nat.le_of_ble_eq_true rfl : 13 < 182) (Nat.le_add_right _ _)) (cC_13 _ _ _ _ _) rfl 3 (by decide) (hts (.fieldLink RX3 22 "SeatsRound$Law" "fault" "I") (List.mem_of_getElem? (i := 6) rfl)) (fun _ h9 => h9) rfl (tyX3_ok 3 (by decide)) rfl rfl (Nat.le_of_ble_eq_true rfl) (oC_13_3 _ _ _ _ _ _) h dX3_workOut_23 (fun σ13 H locs h hP hD hS => ?_)
    refine lv_aload_n hx hb dX3_workOut_26 rfl (lv_at hl 0 rfl) ?_
    refine lv_aload_n hx hb dX3_workOut_27 rfl (lv_at hl 1 rfl) ?_
    refine lv_aload_n hx hb dX3_workOut_28 rfl (lv_at hl 2 rfl) ?_
    obtain ⟨r14, σ15, hf16, h⟩ := bsS h
    refine ux_callv (va_runV (As := [.ref (ad 182), .ref (ad 7)]) (rest := []) ⟨hx, hb, hml, hown, hts⟩ (tX3_look l dC dI cy ad τ nb hτ σ13 H.size r14 σ15 hf16) (cwV 2 hts gX3_workOut_X3_look rfl rfl rfl (by decide +kernel) ⟨Nat.le_of_ble_eq_true rfl, Nat.le_of_ble_eq_true rfl⟩) (wp_V hK hN hP hD (va_recv hK hP (ci := 3) (q0 := 13) rfl (wG_of (Nat.lt_of_lt_of_le (Nat.le_of_ble_eq_true rfl : 13 < 182) (Nat.le_add_right _ _)) (cC_13 _ _ _ _ _)))) rfl rfl hl.1 rfl (lv_room (Nat.le_of_ble_eq_true rfl)) dX3_workOut_29 ⟨Nat.le_of_ble_eq_true rfl, Nat.le_of_ble_eq_true rfl⟩) hD hS hA (fun H locs hP hD hS => ?_)
    refine lv_aload_n hx hb dX3_workOut_32 rfl (lv_at hl 1 rfl) ?_
    refine lv_iconst (v := 2) hx hb dX3_workOut_33 (by decide) ?_
    refine ux_put (D := (dC, dI)) (ci := 8) (C := RX8) (T := TX8) (M := 13) (fs := (oTB ad (182) (σ15.1 (182)))) hx hb hts (fun _ h9 => List.mem_cons_of_mem _ (List.mem_append_left _ (List.mem_append_left _ (List.mem_append_right _ h9)))) tyX8 tyX8_ok nmX8 hown hK hP hD hS 182 (by omega) (cC_t0 _ _ _ _ _ 0) rfl 2 (by decide) (hts (.fieldLink RX3 49 "SeatsRound$Table" "copies" "I") (List.mem_of_getElem? (i := 7) rfl)) (fun _ h9 => h9) rfl (tyX8_ok 2 (by decide)) rfl rfl (Nat.le_of_ble_eq_true rfl) (oC_t_2 _ _ _ _ _ _ 0) h dX3_workOut_34 (fun σ17 H locs h hP hD hS => ?_)
    refine lv_aload_n hx hb dX3_workOut_37 rfl (lv_at hl 1 rfl) ?_
    refine lv_iconst (v := 1) hx hb dX3_workOut_38 (by decide) ?_
    refine ux_put (D := (dC, dI)) (ci := 8) (C := RX8) (T := TX8) (M := 13) (fs := (oTB ad (182) (σ17.1 (182)))) hx hb hts (fun _ h9 => List.mem_cons_of_mem _ (List.mem_append_left _ (List.mem_append_left _ (List.mem_append_right _ h9)))) tyX8 tyX8_ok nmX8 hown hK hP hD hS 182 (by omega) (cC_t0 _ _ _ _ _ 0) rfl 3 (by decide) (hts (.fieldLink RX3 52 "SeatsRound$Table" "streets" "I") (List.mem_of_getElem? (i := 8) rfl)) (fun _ h9 => h9) rfl (tyX8_ok 3 (by decide)) rfl rfl (Nat.le_of_ble_eq_true rfl) (oC_t_3 _ _ _ _ _ _ 0) h dX3_workOut_39 (fun σ18 H locs h hP hD hS => ?_)
    refine lv_aload_n hx hb dX3_workOut_42 rfl (lv_at hl 1 rfl) ?_
    refine lv_iconst (v := 0) hx hb dX3_workOut_43 (by decide) ?_
    refine ux_put (D := (dC, dI)) (ci := 8) (C := RX8) (T := TX8) (M := 13) (fs := (oTB ad (182) (σ18.1 (182)))) hx hb hts (fun _ h9 => List.mem_cons_of_mem _ (List.mem_append_left _ (List.mem_append_left _ (List.mem_append_right _ h9)))) tyX8 tyX8_ok nmX8 hown hK hP hD hS 182 (by omega) (cC_t0 _ _ _ _ _ 0) rfl 4 (by decide) (hts (.fieldLink RX3 55 "SeatsRound$Table" "way" "I") (List.mem_of_getElem? (i := 9) rfl)) (fun _ h9 => h9) rfl (tyX8_ok 4 (by decide)) rfl rfl (Nat.le_of_ble_eq_true rfl) (oC_t_4 _ _ _ _ _ _ 0) h dX3_workOut_44 (fun σ19 H locs h hP hD hS => ?_)
    refine lv_iconst (v := 0) hx hb dX3_workOut_47 (by decide) ?_
    refine lv_istore_n (lv' := [(3, .int 0), (0, .ref (ad 13)), (1, .ref (ad 182)), (2, .ref (ad 7))]) hx hb dX3_workOut_48 rfl hl (by decide) rfl (fun ls hl => ?_)
    have hl := lv_sub hl [1, 2, 3, 0] (l' := [(0, .ref (ad 13)), (1, .ref (ad 182)), (2, .ref (ad 7)), (3, .int 0)]) rfl
    refine lv_iconst (v := 0) hx hb dX3_workOut_49 (by decide) ?_
    refine lv_istore (lv' := [(4, .int 0), (0, .ref (ad 13)), (1, .ref (ad 182)), (2, .ref (ad 7)), (3, .int 0)]) hx hb dX3_workOut_50 hl (by decide) rfl (fun ls hl => ?_)
    have hl := lv_sub hl [1, 2, 3, 4, 0] (l' := [(0, .ref (ad 13)), (1, .ref (ad 182)), (2, .ref (ad 7)), (3, .int 0), (4, .int 0)]) rfl
    exact w52 FU σ19 0 0 H locs ls h hP hD hS (lv_sub hl [0, 1, 3, 4] rfl)
  intro H locs ls h hP hD hS hl
  exact w0 σ H locs ls h hP hD hS (lv_sub hl [0, 1, 2] rfl)

set_option maxHeartbeats 4000000 in
set_option maxRecDepth 100000 in
theorem tX4_has (l : Launch) (dC : Nat → ClassId) (dI : Nat → Nat → Nat) (cy : Nat → ClassId) (ad : Nat → Nat) (τ nb : Nat) (hτ : τ < nb) (σ : S2) (a1 : Int32) (sz : Nat) (r0 : Int32) (h : fX4_has τ σ a1 = some r0) : Met l yX4_has wsX4_has ({ frames := 1, cells := 0, slots := 0, locals := 23 }) (va_Pc [.ref (ad 3), .int a1] (wPre (dC, dI) cy (wG (cC cy ad τ) ad (182 + 6 * nb) σ) sz)) (va_Qi (fun (r : Int32) (_ : Unit) => r = r0) (fun (_ : Unit) t => wAt (dC, dI) (va_A (wG (cC cy ad τ) ad (182 + 6 * nb) σ) sz) (wG (cC cy ad τ) ad (182 + 6 * nb) σ) t) (va_A (wG (cC cy ad τ) ad (182 + 6 * nb) σ) sz)) 0 0 (va_A (wG (cC cy ad τ) ad (182 + 6 * nb) σ) sz) := by
  refine Met.ofW (cc := cX4_has) (maxL := 2) (ret := (some .boolean)) (by decide) rfl ?_
  intro p e s m args below meth c s₁ B hml hv
  obtain ⟨rfl, hsz, hP, hK, hD0, hN⟩ := hv
  have hx := B.exec
  have hb := B.bytes
  have hr := B.returns
  have hts := atoms_spec (ws := wsX4_has) B.pre
  have hown : s.vm.findClass RX4 = some m.cls := findClass_of_methodNamed B.named
  have hlocks := B.notSynchronized
  subst hsz
  have hD := hD0.self (sz := s.heap.size)
  generalize hAe : va_A (wG (cC cy ad τ) ad (182 + 6 * nb) σ) s.heap.size = A at hD ⊢
  have hA : ∀ q : Nat, s.heap.size ≤ q → A q := fun q h => by rw [← hAe]; exact Or.inr h
  have hS : va_S A s.heap s.heap [] := va_S.rf
  have hl := lv_entry ([.ref (ad 3), .int a1]) (n := 2) (Nat.le_of_ble_eq_true rfl)
  rw [lg_entry_eq]
  generalize (lg_sl ([.ref (ad 3), .int a1]) ++ List.replicate (2 - (lg_sl ([.ref (ad 3), .int a1])).length) Slot.unset).toArray = ls at hl ⊢
  have hl : lv_has ls 2 [(0, .ref (ad 3)), (1, .int a1)] := hl
  unfold fX4_has at h
  clear hAe hD0
  suffices HH : ∀ (H : Heap) (locs : List Loc) (ls : Array Slot), fX4_has_0 τ σ a1 = some r0 → va_P (dC, dI) vwCl (wG (cC cy ad τ) ad (182 + 6 * nb) σ) H → va_D A (wG (cC cy ad τ) ad (182 + 6 * nb) σ) → va_S A s.heap H locs → lv_has ls 2 [(0, .ref (ad 3)), (1, .int a1)] → W p l e (headSpec wsX4_has ({ frames := 1, cells := 0, slots := 0, locals := 23 })).room s m (#[.ref (ad 3), .int a1]) below meth c H locs 0 0 (MQ below (va_Qi (fun (r : Int32) (_ : Unit) => r = r0) (fun (_ : Unit) t => wAt (dC, dI) A (wG (cC cy ad τ) ad (182 + 6 * nb) σ) t) A) (#[.ref (ad 3), .int a1]) s 0 0 A) (F0 m 0 ls []) from HH s.heap [] ls h hP hD hS hl
  have w0 : ∀ (σ : S2) (x1 : Int32) (H : Heap) (locs : List Loc) (ls : Array Slot), fX4_has_0 τ σ x1 = some r0 → va_P (dC, dI) vwCl (wG (cC cy ad τ) ad (182 + 6 * nb) σ) H → va_D A (wG (cC cy ad τ) ad (182 + 6 * nb) σ) → va_S A s.heap H locs → lv_has ls 2 [(0, .ref (ad 3)), (1, .int x1)] → W p l e (headSpec wsX4_has ({ frames := 1, cells := 0, slots := 0, locals := 23 })).room s m (#[.ref (ad 3), .int a1]) below meth c H locs 0 0 (MQ below (va_Qi (fun (r : Int32) (_ : Unit) => r = r0) (fun (_ : Unit) t => wAt (dC, dI) A (wG (cC cy ad τ) ad (182 + 6 * nb) σ) t) A) (#[.ref (ad 3), .int a1]) s 0 0 A) (F0 m 0 ls []) := by
    intro σ x1 H locs ls h hP hD hS hl
    unfold fX4_has_0 at h
    refine lv_iload_n hx hb dX4_has_0 rfl (lv_at hl 1 rfl) ?_
    refine lv_if_lt (tgt := 16) hx hb dX4_has_1 (by decide) (fun hcd => ?_) (fun hcd => ?_)
    · have h := cdP hcd h
      refine lv_iconst (v := 0) hx hb dX4_has_16 (by decide) ?_
      exact ux_zretP hx hb hr rfl h hP hD hS hlocks dX4_has_17
    · have h := cdN hcd h
      refine lv_iload_n hx hb dX4_has_4 rfl (lv_at hl 1 rfl) ?_
      refine lv_aload_n hx hb dX4_has_5 rfl (lv_at hl 0 rfl) ?_
      refine ux_get (D := (dC, dI)) (ci := 4) (v := .int (σ.1 3 3)) (C := RX4) (T := TX4) (M := 4) (fs := (oNL ad (σ.1 3))) hx hb hts (fun _ h9 => List.mem_cons_of_mem _ (List.mem_append_right _ h9)) hown hK hP 3 (Nat.lt_of_lt_of_le (Nat.le_of_ble_eq_true rfl : 3 < 182) (Nat.le_add_right _ _)) (cC_3 _ _ _ _ _) rfl 3 (by decide) (hts (.fieldLink RX4 24 "SeatsRound$NameList" "count" "I") (List.mem_of_getElem? (i := 1) rfl)) (fun _ h9 => h9) rfl dX4_has_6 ?_
      refine lv_icmp_ge (tgt := 16) hx hb dX4_has_9 (by decide) (fun hcd => ?_) (fun hcd => ?_)
      · have h := cdP hcd h
        refine lv_iconst (v := 0) hx hb dX4_has_16 (by decide) ?_
        exact ux_zretP hx hb hr rfl h hP hD hS hlocks dX4_has_17
      · have h := cdN hcd h
        refine lv_iconst (v := 1) hx hb dX4_has_12 (by decide) ?_
        refine lv_goto (tgt := 17) hx hb dX4_has_13 (by decide) ?_
        exact ux_zretP hx hb hr rfl h hP hD hS hlocks dX4_has_17
  intro H locs ls h hP hD hS hl
  exact w0 σ a1 H locs ls h hP hD hS (lv_sub hl [0, 1] rfl)

set_option maxHeartbeats 4000000 in
set_option maxRecDepth 100000 in
theorem tX4_isAlike (l : Launch) (dC : Nat → ClassId) (dI : Nat → Nat → Nat) (cy : Nat → ClassId) (ad : Nat → Nat) (τ nb : Nat) (hτ : τ < nb) (c0 n0 : Nat) (hc0 : c0 < 182 + 6 * nb) (hs0 : ∀ (g : Nat → Int32) (q : Nat → Int64), cC cy ad τ c0 g q = .inl (cy 1, n0, .inl g)) (c1 n1 : Nat) (hc1 : c1 < 182 + 6 * nb) (hs1 : ∀ (g : Nat → Int32) (q : Nat → Int64), cC cy ad τ c1 g q = .inl (cy 1, n1, .inl g)) (σ : S2) (a2 : Int32) (a3 : Int32) (sz : Nat) (r0 : Int32) (h : fX4_isAlike τ c0 n0 c1 n1 σ a2 a3 = some r0) : Met l yX4_isAlike wsX4_isAlike ({ frames := 1, cells := 0, slots := 0, locals := 23 }) (va_Pc [.ref (ad c0), .ref (ad c1), .int a2, .int a3] (wPre (dC, dI) cy (wG (cC cy ad τ) ad (182 + 6 * nb) σ) sz)) (va_Qi (fun (r : Int32) (_ : Unit) => r = r0) (fun (_ : Unit) t => wAt (dC, dI) (va_A (wG (cC cy ad τ) ad (182 + 6 * nb) σ) sz) (wG (cC cy ad τ) ad (182 + 6 * nb) σ) t) (va_A (wG (cC cy ad τ) ad (182 + 6 * nb) σ) sz)) 0 0 (va_A (wG (cC cy ad τ) ad (182 + 6 * nb) σ) sz) := by
  refine Met.ofW (cc := cX4_isAlike) (maxL := 5) (ret := (some .boolean)) (by decide) rfl ?_
  intro p e s m args below meth c s₁ B hml hv
  obtain ⟨rfl, hsz, hP, hK, hD0, hN⟩ := hv
  have hx := B.exec
  have hb := B.bytes
  have hr := B.returns
  have hts := atoms_spec (ws := wsX4_isAlike) B.pre
  have hown : s.vm.findClass RX4 = some m.cls := findClass_of_methodNamed B.named
  have hlocks := B.notSynchronized
  subst hsz
  have hD := hD0.self (sz := s.heap.size)
  generalize hAe : va_A (wG (cC cy ad τ) ad (182 + 6 * nb) σ) s.heap.size = A at hD ⊢
  have hA : ∀ q : Nat, s.heap.size ≤ q → A q := fun q h => by rw [← hAe]; exact Or.inr h
  have hS : va_S A s.heap s.heap [] := va_S.rf
  have hl := lv_entry ([.ref (ad c0), .ref (ad c1), .int a2, .int a3]) (n := 5) (Nat.le_of_ble_eq_true rfl)
  rw [lg_entry_eq]
  generalize (lg_sl ([.ref (ad c0), .ref (ad c1), .int a2, .int a3]) ++ List.replicate (5 - (lg_sl ([.ref (ad c0), .ref (ad c1), .int a2, .int a3])).length) Slot.unset).toArray = ls at hl ⊢
  have hl : lv_has ls 5 [(0, .ref (ad c0)), (1, .ref (ad c1)), (2, .int a2), (3, .int a3)] := hl
  unfold fX4_isAlike at h
  clear hAe hD0
  suffices HH : ∀ (H : Heap) (locs : List Loc) (ls : Array Slot), fX4_isAlike_0 τ c0 n0 c1 n1 σ a2 a3 = some r0 → va_P (dC, dI) vwCl (wG (cC cy ad τ) ad (182 + 6 * nb) σ) H → va_D A (wG (cC cy ad τ) ad (182 + 6 * nb) σ) → va_S A s.heap H locs → lv_has ls 5 [(0, .ref (ad c0)), (1, .ref (ad c1)), (2, .int a2), (3, .int a3)] → W p l e (headSpec wsX4_isAlike ({ frames := 1, cells := 0, slots := 0, locals := 23 })).room s m (#[.ref (ad c0), .ref (ad c1), .int a2, .int a3]) below meth c H locs 0 0 (MQ below (va_Qi (fun (r : Int32) (_ : Unit) => r = r0) (fun (_ : Unit) t => wAt (dC, dI) A (wG (cC cy ad τ) ad (182 + 6 * nb) σ) t) A) (#[.ref (ad c0), .ref (ad c1), .int a2, .int a3]) s 0 0 A) (F0 m 0 ls []) from HH s.heap [] ls h hP hD hS hl
  have w3 : ∀ (n : Nat), ∀ (σ : S2) (x2 : Int32) (x3 : Int32) (x4 : Int32) (H : Heap) (locs : List Loc) (ls : Array Slot), fX4_isAlike_3 τ c0 n0 c1 n1 n σ x2 x3 x4 = some r0 → va_P (dC, dI) vwCl (wG (cC cy ad τ) ad (182 + 6 * nb) σ) H → va_D A (wG (cC cy ad τ) ad (182 + 6 * nb) σ) → va_S A s.heap H locs → lv_has ls 5 [(0, .ref (ad c0)), (1, .ref (ad c1)), (2, .int x2), (3, .int x3), (4, .int x4)] → W p l e (headSpec wsX4_isAlike ({ frames := 1, cells := 0, slots := 0, locals := 23 })).room s m (#[.ref (ad c0), .ref (ad c1), .int a2, .int a3]) below meth c H locs 0 0 (MQ below (va_Qi (fun (r : Int32) (_ : Unit) => r = r0) (fun (_ : Unit) t => wAt (dC, dI) A (wG (cC cy ad τ) ad (182 + 6 * nb) σ) t) A) (#[.ref (ad c0), .ref (ad c1), .int a2, .int a3]) s 0 0 A) (F0 m 3 ls []) := by
    intro n
    induction n with
    | zero => intro σ x2 x3 x4 H locs ls h; cases h
    | succ n ih =>
    intro σ x2 x3 x4 H locs ls h hP hD hS hl
    unfold fX4_isAlike_3 at h
    refine lv_iload hx hb dX4_isAlike_3 (lv_at hl 4 rfl) ?_
    refine lv_iload_n hx hb dX4_isAlike_5 rfl (lv_at hl 3 rfl) ?_
    refine lv_icmp_ge (tgt := 30) hx hb dX4_isAlike_6 (by decide) (fun hcd => ?_) (fun hcd => ?_)
    · have h := cdP hcd h
      refine lv_iconst (v := 1) hx hb dX4_isAlike_30 (by decide) ?_
      exact ux_zretP hx hb hr rfl h hP hD hS hlocks dX4_isAlike_31
    · have h := cdN hcd h
      refine lv_aload_n hx hb dX4_isAlike_9 rfl (lv_at hl 0 rfl) ?_
      refine lv_iload hx hb dX4_isAlike_10 (lv_at hl 4 rfl) ?_
      refine ux_bald hx hb hK hP c0 1 hc0 (hs0 _ _) rfl h dX4_isAlike_12 (fun v1 h => ?_)
      refine lv_aload_n hx hb dX4_isAlike_13 rfl (lv_at hl 1 rfl) ?_
      refine lv_iload_n hx hb dX4_isAlike_14 rfl (lv_at hl 2 rfl) ?_
      refine lv_iload hx hb dX4_isAlike_15 (lv_at hl 4 rfl) ?_
      refine lv_iadd hx hb dX4_isAlike_17 ?_
      refine ux_bald hx hb hK hP c1 1 hc1 (hs1 _ _) rfl h dX4_isAlike_18 (fun v2 h => ?_)
      refine lv_icmp_eq (tgt := 24) hx hb dX4_isAlike_19 (by decide) (fun hcd => ?_) (fun hcd => ?_)
      · have h := cdP hcd h
        obtain ⟨v3, ev3⟩ : ∃ y : Int32, y = x4 + 1 := ⟨_, rfl⟩
        have h := nmS h ev3
        refine lv_iinc (v := v3) (lv' := [(4, .int v3), (0, .ref (ad c0)), (1, .ref (ad c1)), (2, .int x2), (3, .int x3)]) hx hb dX4_isAlike_24 hl (k := 4) rfl (by rw [ev3]; rfl) (by decide) rfl (fun ls hl => ?_)
        have hl := lv_sub hl [1, 2, 3, 4, 0] (l' := [(0, .ref (ad c0)), (1, .ref (ad c1)), (2, .int x2), (3, .int x3), (4, .int v3)]) rfl
        refine lv_goto (tgt := 3) hx hb dX4_isAlike_27 (by decide) ?_
        exact ih σ x2 x3 v3 H locs ls h hP hD hS hl
      · have h := cdN hcd h
        refine lv_iconst (v := 0) hx hb dX4_isAlike_22 (by decide) ?_
        exact ux_zretP hx hb hr rfl h hP hD hS hlocks dX4_isAlike_23
  have w0 : ∀ (σ : S2) (x2 : Int32) (x3 : Int32) (H : Heap) (locs : List Loc) (ls : Array Slot), fX4_isAlike_0 τ c0 n0 c1 n1 σ x2 x3 = some r0 → va_P (dC, dI) vwCl (wG (cC cy ad τ) ad (182 + 6 * nb) σ) H → va_D A (wG (cC cy ad τ) ad (182 + 6 * nb) σ) → va_S A s.heap H locs → lv_has ls 5 [(0, .ref (ad c0)), (1, .ref (ad c1)), (2, .int x2), (3, .int x3)] → W p l e (headSpec wsX4_isAlike ({ frames := 1, cells := 0, slots := 0, locals := 23 })).room s m (#[.ref (ad c0), .ref (ad c1), .int a2, .int a3]) below meth c H locs 0 0 (MQ below (va_Qi (fun (r : Int32) (_ : Unit) => r = r0) (fun (_ : Unit) t => wAt (dC, dI) A (wG (cC cy ad τ) ad (182 + 6 * nb) σ) t) A) (#[.ref (ad c0), .ref (ad c1), .int a2, .int a3]) s 0 0 A) (F0 m 0 ls []) := by
    intro σ x2 x3 H locs ls h hP hD hS hl
    unfold fX4_isAlike_0 at h
    refine lv_iconst (v := 0) hx hb dX4_isAlike_0 (by decide) ?_
    refine lv_istore (lv' := [(4, .int 0), (0, .ref (ad c0)), (1, .ref (ad c1)), (2, .int x2), (3, .int x3)]) hx hb dX4_isAlike_1 hl (by decide) rfl (fun ls hl => ?_)
    have hl := lv_sub hl [1, 2, 3, 4, 0] (l' := [(0, .ref (ad c0)), (1, .ref (ad c1)), (2, .int x2), (3, .int x3), (4, .int 0)]) rfl
    exact w3 FU σ x2 x3 0 H locs ls h hP hD hS hl
  intro H locs ls h hP hD hS hl
  exact w0 σ a2 a3 H locs ls h hP hD hS (lv_sub hl [0, 1, 2, 3] rfl)

set_option maxHeartbeats 4000000 in
set_option maxRecDepth 100000 in
theorem tX4_find (l : Launch) (dC : Nat → ClassId) (dI : Nat → Nat → Nat) (cy : Nat → ClassId) (ad : Nat → Nat) (τ nb : Nat) (hτ : τ < nb) (c1 n1 : Nat) (hc1 : c1 < 182 + 6 * nb) (hs1 : ∀ (g : Nat → Int32) (q : Nat → Int64), cC cy ad τ c1 g q = .inl (cy 1, n1, .inl g)) (σ : S2) (a2 : Int32) (a3 : Int32) (sz : Nat) (r0 : Int32) (h : fX4_find τ c1 n1 σ a2 a3 = some r0) : Met l yX4_find wsX4_find ({ frames := 2, cells := 0, slots := 0, locals := 47 }) (va_Pc [.ref (ad 3), .ref (ad c1), .int a2, .int a3] (wPre (dC, dI) cy (wG (cC cy ad τ) ad (182 + 6 * nb) σ) sz)) (va_Qi (fun (r : Int32) (_ : Unit) => r = r0) (fun (_ : Unit) t => wAt (dC, dI) (va_A (wG (cC cy ad τ) ad (182 + 6 * nb) σ) sz) (wG (cC cy ad τ) ad (182 + 6 * nb) σ) t) (va_A (wG (cC cy ad τ) ad (182 + 6 * nb) σ) sz)) 0 0 (va_A (wG (cC cy ad τ) ad (182 + 6 * nb) σ) sz) := by
  refine Met.ofW (cc := cX4_find) (maxL := 5) (ret := (some .int)) (by decide) rfl ?_
  intro p e s m args below meth c s₁ B hml hv
  obtain ⟨rfl, hsz, hP, hK, hD0, hN⟩ := hv
  have hx := B.exec
  have hb := B.bytes
  have hr := B.returns
  have hts := atoms_spec (ws := wsX4_find) B.pre
  have hown : s.vm.findClass RX4 = some m.cls := findClass_of_methodNamed B.named
  have hlocks := B.notSynchronized
  subst hsz
  have hD := hD0.self (sz := s.heap.size)
  generalize hAe : va_A (wG (cC cy ad τ) ad (182 + 6 * nb) σ) s.heap.size = A at hD ⊢
  have hA : ∀ q : Nat, s.heap.size ≤ q → A q := fun q h => by rw [← hAe]; exact Or.inr h
  have hS : va_S A s.heap s.heap [] := va_S.rf
  have hl := lv_entry ([.ref (ad 3), .ref (ad c1), .int a2, .int a3]) (n := 5) (Nat.le_of_ble_eq_true rfl)
  rw [lg_entry_eq]
  generalize (lg_sl ([.ref (ad 3), .ref (ad c1), .int a2, .int a3]) ++ List.replicate (5 - (lg_sl ([.ref (ad 3), .ref (ad c1), .int a2, .int a3])).length) Slot.unset).toArray = ls at hl ⊢
  have hl : lv_has ls 5 [(0, .ref (ad 3)), (1, .ref (ad c1)), (2, .int a2), (3, .int a3)] := hl
  unfold fX4_find at h
  clear hAe hD0
  suffices HH : ∀ (H : Heap) (locs : List Loc) (ls : Array Slot), fX4_find_0 τ c1 n1 σ a2 a3 = some r0 → va_P (dC, dI) vwCl (wG (cC cy ad τ) ad (182 + 6 * nb) σ) H → va_D A (wG (cC cy ad τ) ad (182 + 6 * nb) σ) → va_S A s.heap H locs → lv_has ls 5 [(0, .ref (ad 3)), (1, .ref (ad c1)), (2, .int a2), (3, .int a3)] → W p l e (headSpec wsX4_find ({ frames := 2, cells := 0, slots := 0, locals := 47 })).room s m (#[.ref (ad 3), .ref (ad c1), .int a2, .int a3]) below meth c H locs 0 0 (MQ below (va_Qi (fun (r : Int32) (_ : Unit) => r = r0) (fun (_ : Unit) t => wAt (dC, dI) A (wG (cC cy ad τ) ad (182 + 6 * nb) σ) t) A) (#[.ref (ad 3), .ref (ad c1), .int a2, .int a3]) s 0 0 A) (F0 m 0 ls []) from HH s.heap [] ls h hP hD hS hl
  have w42 : ∀ (k3 : S2 → Int32 → Int32 → Int32 → Option Int32) (hk3 : ∀ (σ : S2) (x2 : Int32) (x3 : Int32) (x4 : Int32) (H : Heap) (locs : List Loc) (ls : Array Slot), k3 σ x2 x3 x4 = some r0 → va_P (dC, dI) vwCl (wG (cC cy ad τ) ad (182 + 6 * nb) σ) H → va_D A (wG (cC cy ad τ) ad (182 + 6 * nb) σ) → va_S A s.heap H locs → lv_has ls 5 [(0, .ref (ad 3)), (1, .ref (ad c1)), (2, .int x2), (3, .int x3), (4, .int x4)] → W p l e (headSpec wsX4_find ({ frames := 2, cells := 0, slots := 0, locals := 47 })).room s m (#[.ref (ad 3), .ref (ad c1), .int a2, .int a3]) below meth c H locs 0 0 (MQ below (va_Qi (fun (r : Int32) (_ : Unit) => r = r0) (fun (_ : Unit) t => wAt (dC, dI) A (wG (cC cy ad τ) ad (182 + 6 * nb) σ) t) A) (#[.ref (ad 3), .ref (ad c1), .int a2, .int a3]) s 0 0 A) (F0 m 3 ls [])) , ∀ (σ : S2) (x2 : Int32) (x3 : Int32) (x4 : Int32) (H : Heap) (locs : List Loc) (ls : Array Slot), fX4_find_42 τ c1 n1 k3 σ x2 x3 x4 = some r0 → va_P (dC, dI) vwCl (wG (cC cy ad τ) ad (182 + 6 * nb) σ) H → va_D A (wG (cC cy ad τ) ad (182 + 6 * nb) σ) → va_S A s.heap H locs → lv_has ls 5 [(0, .ref (ad 3)), (1, .ref (ad c1)), (2, .int x2), (3, .int x3), (4, .int x4)] → W p l e (headSpec wsX4_find ({ frames := 2, cells := 0, slots := 0, locals := 47 })).room s m (#[.ref (ad 3), .ref (ad c1), .int a2, .int a3]) below meth c H locs 0 0 (MQ below (va_Qi (fun (r : Int32) (_ : Unit) => r = r0) (fun (_ : Unit) t => wAt (dC, dI) A (wG (cC cy ad τ) ad (182 + 6 * nb) σ) t) A) (#[.ref (ad 3), .ref (ad c1), .int a2, .int a3]) s 0 0 A) (F0 m 42 ls []) := by
    intro k3 hk3 σ x2 x3 x4 H locs ls h hP hD hS hl
    unfold fX4_find_42 at h
    obtain ⟨v1, ev1⟩ : ∃ y : Int32, y = x4 + 1 := ⟨_, rfl⟩
    have h := nmS h ev1
    refine lv_iinc (v := v1) (lv' := [(4, .int v1), (0, .ref (ad 3)), (1, .ref (ad c1)), (2, .int x2), (3, .int x3)]) hx hb dX4_find_42 hl (k := 4) rfl (by rw [ev1]; rfl) (by decide) rfl (fun ls hl => ?_)
    have hl := lv_sub hl [1, 2, 3, 4, 0] (l' := [(0, .ref (ad 3)), (1, .ref (ad c1)), (2, .int x2), (3, .int x3), (4, .int v1)]) rfl
    refine lv_goto (tgt := 3) hx hb dX4_find_45 (by decide) ?_
    exact hk3 σ x2 x3 v1 H locs ls h hP hD hS hl
  have w3 : ∀ (n : Nat), ∀ (σ : S2) (x2 : Int32) (x3 : Int32) (x4 : Int32) (H : Heap) (locs : List Loc) (ls : Array Slot), fX4_find_3 τ c1 n1 n σ x2 x3 x4 = some r0 → va_P (dC, dI) vwCl (wG (cC cy ad τ) ad (182 + 6 * nb) σ) H → va_D A (wG (cC cy ad τ) ad (182 + 6 * nb) σ) → va_S A s.heap H locs → lv_has ls 5 [(0, .ref (ad 3)), (1, .ref (ad c1)), (2, .int x2), (3, .int x3), (4, .int x4)] → W p l e (headSpec wsX4_find ({ frames := 2, cells := 0, slots := 0, locals := 47 })).room s m (#[.ref (ad 3), .ref (ad c1), .int a2, .int a3]) below meth c H locs 0 0 (MQ below (va_Qi (fun (r : Int32) (_ : Unit) => r = r0) (fun (_ : Unit) t => wAt (dC, dI) A (wG (cC cy ad τ) ad (182 + 6 * nb) σ) t) A) (#[.ref (ad 3), .ref (ad c1), .int a2, .int a3]) s 0 0 A) (F0 m 3 ls []) := by
    intro n
    induction n with
    | zero => intro σ x2 x3 x4 H locs ls h; cases h
    | succ n ih =>
    intro σ x2 x3 x4 H locs ls h hP hD hS hl
    unfold fX4_find_3 at h
    refine lv_iload hx hb dX4_find_3 (lv_at hl 4 rfl) ?_
    refine lv_aload_n hx hb dX4_find_5 rfl (lv_at hl 0 rfl) ?_
    refine ux_get (D := (dC, dI)) (ci := 4) (v := .int (σ.1 3 3)) (C := RX4) (T := TX4) (M := 4) (fs := (oNL ad (σ.1 3))) hx hb hts (fun _ h9 => List.mem_cons_of_mem _ (List.mem_append_right _ h9)) hown hK hP 3 (Nat.lt_of_lt_of_le (Nat.le_of_ble_eq_true rfl : 3 < 182) (Nat.le_add_right _ _)) (cC_3 _ _ _ _ _) rfl 3 (by decide) (hts (.fieldLink RX4 24 "SeatsRound$NameList" "count" "I") (List.mem_of_getElem? (i := 1) rfl)) (fun _ h9 => h9) rfl dX4_find_6 ?_
    refine lv_icmp_ge (tgt := 48) hx hb dX4_find_9 (by decide) (fun hcd => ?_) (fun hcd => ?_)
    · have h := cdP hcd h
      refine lv_iconst (v := (-1)) hx hb dX4_find_48 (by decide) ?_
      exact ux_iretP hx hb hr h hP hD hS hlocks dX4_find_49
    · have h := cdN hcd h
      refine lv_aload_n hx hb dX4_find_12 rfl (lv_at hl 0 rfl) ?_
      refine ux_get (D := (dC, dI)) (ci := 4) (v := .ref (ad 5)) (C := RX4) (T := TX4) (M := 4) (fs := (oNL ad (σ.1 3))) hx hb hts (fun _ h9 => List.mem_cons_of_mem _ (List.mem_append_right _ h9)) hown hK hP 3 (Nat.lt_of_lt_of_le (Nat.le_of_ble_eq_true rfl : 3 < 182) (Nat.le_add_right _ _)) (cC_3 _ _ _ _ _) rfl 1 (by decide) (hts (.fieldLink RX4 16 "SeatsRound$NameList" "size" "[I") (List.mem_of_getElem? (i := 2) rfl)) (fun _ h9 => h9) rfl dX4_find_13 ?_
      refine lv_iload hx hb dX4_find_16 (lv_at hl 4 rfl) ?_
      refine ux_iald hx hb hK hP 5 0 (Nat.lt_of_lt_of_le (Nat.le_of_ble_eq_true rfl : 5 < 182) (Nat.le_add_right _ _)) (cC_5 _ _ _ _ _) rfl h dX4_find_18 (fun v2 h => ?_)
      refine lv_iload_n hx hb dX4_find_19 rfl (lv_at hl 3 rfl) ?_
      refine lv_icmp_ne (tgt := 42) hx hb dX4_find_20 (by decide) (fun hcd => ?_) (fun hcd => ?_)
      · have h := cdN hcd h
        exact w42 _ ih σ x2 x3 x4 H locs ls h hP hD hS hl
      · have h := cdP hcd h
        refine lv_aload_n hx hb dX4_find_23 rfl (lv_at hl 0 rfl) ?_
        refine ux_get (D := (dC, dI)) (ci := 4) (v := .ref (ad 4)) (C := RX4) (T := TX4) (M := 4) (fs := (oNL ad (σ.1 3))) hx hb hts (fun _ h9 => List.mem_cons_of_mem _ (List.mem_append_right _ h9)) hown hK hP 3 (Nat.lt_of_lt_of_le (Nat.le_of_ble_eq_true rfl : 3 < 182) (Nat.le_add_right _ _)) (cC_3 _ _ _ _ _) rfl 0 (by decide) (hts (.fieldLink RX4 11 "SeatsRound$NameList" "bytes" "[[B") (List.mem_of_getElem? (i := 3) rfl)) (fun _ h9 => h9) rfl dX4_find_24 ?_
        refine lv_iload hx hb dX4_find_27 (lv_at hl 4 rfl) ?_
        obtain ⟨hii3, h⟩ := ckS h
        have hri3 := vp_lt hii3
        refine vz_aldg hx hb hK hP 4 5 (wG_of (Nat.lt_of_lt_of_le (Nat.le_of_ble_eq_true rfl : 4 < 182) (Nat.le_add_right _ _)) (cC_4 _ _ _ _ _)) rfl hii3 (if_pos hri3) dX4_find_29 ?_
        refine lv_aload_n hx hb dX4_find_30 rfl (lv_at hl 1 rfl) ?_
        refine lv_iload_n hx hb dX4_find_31 rfl (lv_at hl 2 rfl) ?_
        refine lv_iload_n hx hb dX4_find_32 rfl (lv_at hl 3 rfl) ?_
        obtain ⟨r4, hf5, h⟩ := biS h
        refine ux_calli (va_runS (As := [.ref (ad (44 + Int32.toNatClampNeg x4)), .ref (ad c1), .int x2, .int x3]) (rest := []) ⟨hx, hb, hml, hown, hts⟩ (tX4_isAlike l dC dI cy ad τ nb hτ (44 + Int32.toNatClampNeg x4) 6 (by omega) (fun _ _ => (cC_r0 _ _ _ _ _ _ (by omega))) c1 n1 hc1 (fun _ _ => (hs1 _ _)) σ x2 x3 H.size r4 hf5) (va_cwS 4 hts gX4_find_X4_isAlike rfl rfl rfl (by decide +kernel) ⟨Nat.le_of_ble_eq_true rfl, Nat.le_of_ble_eq_true rfl⟩) (wp_S hK hN hP hD) rfl rfl hl.1 rfl (lv_room (Nat.le_of_ble_eq_true rfl)) dX4_find_33 ⟨Nat.le_of_ble_eq_true rfl, Nat.le_of_ble_eq_true rfl⟩) hD hS hA (fun H locs hP hD hS => ?_)
        refine lv_if_eq (tgt := 42) hx hb dX4_find_36 (by decide) (fun hcd => ?_) (fun hcd => ?_)
        · have h := cdP hcd h
          exact w42 _ ih σ x2 x3 x4 H locs ls h hP hD hS hl
        · have h := cdN hcd h
          refine lv_iload hx hb dX4_find_39 (lv_at hl 4 rfl) ?_
          exact ux_iretP hx hb hr h hP hD hS hlocks dX4_find_41
  have w0 : ∀ (σ : S2) (x2 : Int32) (x3 : Int32) (H : Heap) (locs : List Loc) (ls : Array Slot), fX4_find_0 τ c1 n1 σ x2 x3 = some r0 → va_P (dC, dI) vwCl (wG (cC cy ad τ) ad (182 + 6 * nb) σ) H → va_D A (wG (cC cy ad τ) ad (182 + 6 * nb) σ) → va_S A s.heap H locs → lv_has ls 5 [(0, .ref (ad 3)), (1, .ref (ad c1)), (2, .int x2), (3, .int x3)] → W p l e (headSpec wsX4_find ({ frames := 2, cells := 0, slots := 0, locals := 47 })).room s m (#[.ref (ad 3), .ref (ad c1), .int a2, .int a3]) below meth c H locs 0 0 (MQ below (va_Qi (fun (r : Int32) (_ : Unit) => r = r0) (fun (_ : Unit) t => wAt (dC, dI) A (wG (cC cy ad τ) ad (182 + 6 * nb) σ) t) A) (#[.ref (ad 3), .ref (ad c1), .int a2, .int a3]) s 0 0 A) (F0 m 0 ls []) := by
    intro σ x2 x3 H locs ls h hP hD hS hl
    unfold fX4_find_0 at h
    refine lv_iconst (v := 0) hx hb dX4_find_0 (by decide) ?_
    refine lv_istore (lv' := [(4, .int 0), (0, .ref (ad 3)), (1, .ref (ad c1)), (2, .int x2), (3, .int x3)]) hx hb dX4_find_1 hl (by decide) rfl (fun ls hl => ?_)
    have hl := lv_sub hl [1, 2, 3, 4, 0] (l' := [(0, .ref (ad 3)), (1, .ref (ad c1)), (2, .int x2), (3, .int x3), (4, .int 0)]) rfl
    exact w3 FU σ x2 x3 0 H locs ls h hP hD hS hl
  intro H locs ls h hP hD hS hl
  exact w0 σ a2 a3 H locs ls h hP hD hS (lv_sub hl [0, 1, 2, 3] rfl)

set_option maxHeartbeats 4000000 in
set_option maxRecDepth 100000 in
theorem tX4_add (l : Launch) (dC : Nat → ClassId) (dI : Nat → Nat → Nat) (cy : Nat → ClassId) (ad : Nat → Nat) (τ nb : Nat) (hτ : τ < nb) (c1 n1 : Nat) (hc1 : c1 < 182 + 6 * nb) (hs1 : ∀ (g : Nat → Int32) (q : Nat → Int64), cC cy ad τ c1 g q = .inl (cy 1, n1, .inl g)) (σ : S2) (a2 : Int32) (a3 : Int32) (sz : Nat) (r0 : Int32) (σ9 : S2) (h : fX4_add τ c1 n1 σ a2 a3 = some (r0, σ9)) : Met l yX4_add wsX4_add ({ frames := 2, cells := 0, slots := 0, locals := 60 }) (va_Pc [.ref (ad 3), .ref (ad c1), .int a2, .int a3] (wPre (dC, dI) cy (wG (cC cy ad τ) ad (182 + 6 * nb) σ) sz)) (va_Qi (fun (r : Int32) (_ : Unit) => r = r0) (fun (_ : Unit) t => wAt (dC, dI) (va_A (wG (cC cy ad τ) ad (182 + 6 * nb) σ) sz) (wG (cC cy ad τ) ad (182 + 6 * nb) σ9) t) (va_A (wG (cC cy ad τ) ad (182 + 6 * nb) σ) sz)) 0 0 (va_A (wG (cC cy ad τ) ad (182 + 6 * nb) σ) sz) := by
  refine Met.ofW (cc := cX4_add) (maxL := 4) (ret := (some .int)) (by decide) rfl ?_
  intro p e s m args below meth c s₁ B hml hv
  obtain ⟨rfl, hsz, hP, hK, hD0, hN⟩ := hv
  have hx := B.exec
  have hb := B.bytes
  have hr := B.returns
  have hts := atoms_spec (ws := wsX4_add) B.pre
  have hown : s.vm.findClass RX4 = some m.cls := findClass_of_methodNamed B.named
  have hlocks := B.notSynchronized
  subst hsz
  have hD := hD0.self (sz := s.heap.size)
  generalize hAe : va_A (wG (cC cy ad τ) ad (182 + 6 * nb) σ) s.heap.size = A at hD ⊢
  have hA : ∀ q : Nat, s.heap.size ≤ q → A q := fun q h => by rw [← hAe]; exact Or.inr h
  have hS : va_S A s.heap s.heap [] := va_S.rf
  have hl := lv_entry ([.ref (ad 3), .ref (ad c1), .int a2, .int a3]) (n := 4) (Nat.le_of_ble_eq_true rfl)
  rw [lg_entry_eq]
  generalize (lg_sl ([.ref (ad 3), .ref (ad c1), .int a2, .int a3]) ++ List.replicate (4 - (lg_sl ([.ref (ad 3), .ref (ad c1), .int a2, .int a3])).length) Slot.unset).toArray = ls at hl ⊢
  have hl : lv_has ls 4 [(0, .ref (ad 3)), (1, .ref (ad c1)), (2, .int a2), (3, .int a3)] := hl
  unfold fX4_add at h
  clear hAe hD0
  suffices HH : ∀ (H : Heap) (locs : List Loc) (ls : Array Slot), fX4_add_0 τ c1 n1 σ a2 a3 = some (r0, σ9) → va_P (dC, dI) vwCl (wG (cC cy ad τ) ad (182 + 6 * nb) σ) H → va_D A (wG (cC cy ad τ) ad (182 + 6 * nb) σ) → va_S A s.heap H locs → lv_has ls 4 [(0, .ref (ad 3)), (1, .ref (ad c1)), (2, .int a2), (3, .int a3)] → W p l e (headSpec wsX4_add ({ frames := 2, cells := 0, slots := 0, locals := 60 })).room s m (#[.ref (ad 3), .ref (ad c1), .int a2, .int a3]) below meth c H locs 0 0 (MQ below (va_Qi (fun (r : Int32) (_ : Unit) => r = r0) (fun (_ : Unit) t => wAt (dC, dI) A (wG (cC cy ad τ) ad (182 + 6 * nb) σ9) t) A) (#[.ref (ad 3), .ref (ad c1), .int a2, .int a3]) s 0 0 A) (F0 m 0 ls []) from HH s.heap [] ls h hP hD hS hl
  have w0 : ∀ (σ : S2) (x2 : Int32) (x3 : Int32) (H : Heap) (locs : List Loc) (ls : Array Slot), fX4_add_0 τ c1 n1 σ x2 x3 = some (r0, σ9) → va_P (dC, dI) vwCl (wG (cC cy ad τ) ad (182 + 6 * nb) σ) H → va_D A (wG (cC cy ad τ) ad (182 + 6 * nb) σ) → va_S A s.heap H locs → lv_has ls 4 [(0, .ref (ad 3)), (1, .ref (ad c1)), (2, .int x2), (3, .int x3)] → W p l e (headSpec wsX4_add ({ frames := 2, cells := 0, slots := 0, locals := 60 })).room s m (#[.ref (ad 3), .ref (ad c1), .int a2, .int a3]) below meth c H locs 0 0 (MQ below (va_Qi (fun (r : Int32) (_ : Unit) => r = r0) (fun (_ : Unit) t => wAt (dC, dI) A (wG (cC cy ad τ) ad (182 + 6 * nb) σ9) t) A) (#[.ref (ad 3), .ref (ad c1), .int a2, .int a3]) s 0 0 A) (F0 m 0 ls []) := by
    intro σ x2 x3 H locs ls h hP hD hS hl
    unfold fX4_add_0 at h
    refine lv_aload_n hx hb dX4_add_0 rfl (lv_at hl 0 rfl) ?_
    refine ux_get (D := (dC, dI)) (ci := 4) (v := .int (σ.1 3 3)) (C := RX4) (T := TX4) (M := 4) (fs := (oNL ad (σ.1 3))) hx hb hts (fun _ h9 => List.mem_cons_of_mem _ (List.mem_append_right _ h9)) hown hK hP 3 (Nat.lt_of_lt_of_le (Nat.le_of_ble_eq_true rfl : 3 < 182) (Nat.le_add_right _ _)) (cC_3 _ _ _ _ _) rfl 3 (by decide) (hts (.fieldLink RX4 24 "SeatsRound$NameList" "count" "I") (List.mem_of_getElem? (i := 1) rfl)) (fun _ h9 => h9) rfl dX4_add_1 ?_
    refine lv_bipush (v := 40) hx hb dX4_add_4 (by decide) ?_
    refine lv_icmp_lt (tgt := 11) hx hb dX4_add_6 (by decide) (fun hcd => ?_) (fun hcd => ?_)
    · have h := cdP hcd h
      refine lv_aload_n hx hb dX4_add_11 rfl (lv_at hl 1 rfl) ?_
      refine lv_iload_n hx hb dX4_add_12 rfl (lv_at hl 2 rfl) ?_
      refine lv_aload_n hx hb dX4_add_13 rfl (lv_at hl 0 rfl) ?_
      refine ux_get (D := (dC, dI)) (ci := 4) (v := .ref (ad 4)) (C := RX4) (T := TX4) (M := 4) (fs := (oNL ad (σ.1 3))) hx hb hts (fun _ h9 => List.mem_cons_of_mem _ (List.mem_append_right _ h9)) hown hK hP 3 (Nat.lt_of_lt_of_le (Nat.le_of_ble_eq_true rfl : 3 < 182) (Nat.le_add_right _ _)) (cC_3 _ _ _ _ _) rfl 0 (by decide) (hts (.fieldLink RX4 11 "SeatsRound$NameList" "bytes" "[[B") (List.mem_of_getElem? (i := 2) rfl)) (fun _ h9 => h9) rfl dX4_add_14 ?_
      refine lv_aload_n hx hb dX4_add_17 rfl (lv_at hl 0 rfl) ?_
      refine ux_get (D := (dC, dI)) (ci := 4) (v := .int (σ.1 3 3)) (C := RX4) (T := TX4) (M := 4) (fs := (oNL ad (σ.1 3))) hx hb hts (fun _ h9 => List.mem_cons_of_mem _ (List.mem_append_right _ h9)) hown hK hP 3 (Nat.lt_of_lt_of_le (Nat.le_of_ble_eq_true rfl : 3 < 182) (Nat.le_add_right _ _)) (cC_3 _ _ _ _ _) rfl 3 (by decide) (hts (.fieldLink RX4 24 "SeatsRound$NameList" "count" "I") (List.mem_of_getElem? (i := 1) rfl)) (fun _ h9 => h9) rfl dX4_add_18 ?_
      obtain ⟨hii1, h⟩ := ckS h
      have hri1 := vp_lt hii1
      refine vz_aldg hx hb hK hP 4 5 (wG_of (Nat.lt_of_lt_of_le (Nat.le_of_ble_eq_true rfl : 4 < 182) (Nat.le_add_right _ _)) (cC_4 _ _ _ _ _)) rfl hii1 (if_pos hri1) dX4_add_21 ?_
      refine lv_iconst (v := 0) hx hb dX4_add_22 (by decide) ?_
      refine lv_iload_n hx hb dX4_add_23 rfl (lv_at hl 3 rfl) ?_
      refine ux_copyi hx hb (hml.trans hl.1.symm) hown (hts (.methodLink RX4 32 arraycopyName) (List.mem_of_getElem? (i := 3) rfl)) (hts (.native arraycopyName) (List.mem_of_getElem? (i := 4) rfl)) (hts (.static arraycopyName) (List.mem_of_getElem? (i := 5) rfl)) (hts (.initialized "java/lang/System") (List.mem_of_getElem? (i := 6) rfl)) hK hP hD hS c1 (44 + Int32.toNatClampNeg (σ.1 3 3)) 1 hc1 (by omega) (hs1 _ _) (fun _ => (cC_r0 _ _ _ _ _ _ (by omega))) rfl rfl h (Nat.le_of_ble_eq_true rfl) (Nat.le_of_ble_eq_true rfl) dX4_add_24 (fun σ2 H locs h hP hD hS => ?_)
      refine lv_aload_n hx hb dX4_add_27 rfl (lv_at hl 0 rfl) ?_
      refine ux_get (D := (dC, dI)) (ci := 4) (v := .ref (ad 5)) (C := RX4) (T := TX4) (M := 4) (fs := (oNL ad (σ2.1 3))) hx hb hts (fun _ h9 => List.mem_cons_of_mem _ (List.mem_append_right _ h9)) hown hK hP 3 (Nat.lt_of_lt_of_le (Nat.le_of_ble_eq_true rfl : 3 < 182) (Nat.le_add_right _ _)) (cC_3 _ _ _ _ _) rfl 1 (by decide) (hts (.fieldLink RX4 16 "SeatsRound$NameList" "size" "[I") (List.mem_of_getElem? (i := 7) rfl)) (fun _ h9 => h9) rfl dX4_add_28 ?_
      refine lv_aload_n hx hb dX4_add_31 rfl (lv_at hl 0 rfl) ?_
      refine ux_get (D := (dC, dI)) (ci := 4) (v := .int (σ2.1 3 3)) (C := RX4) (T := TX4) (M := 4) (fs := (oNL ad (σ2.1 3))) hx hb hts (fun _ h9 => List.mem_cons_of_mem _ (List.mem_append_right _ h9)) hown hK hP 3 (Nat.lt_of_lt_of_le (Nat.le_of_ble_eq_true rfl : 3 < 182) (Nat.le_add_right _ _)) (cC_3 _ _ _ _ _) rfl 3 (by decide) (hts (.fieldLink RX4 24 "SeatsRound$NameList" "count" "I") (List.mem_of_getElem? (i := 1) rfl)) (fun _ h9 => h9) rfl dX4_add_32 ?_
      refine lv_iload_n hx hb dX4_add_35 rfl (lv_at hl 3 rfl) ?_
      refine ux_iast hx hb hK hP hD hS 5 0 (Nat.lt_of_lt_of_le (Nat.le_of_ble_eq_true rfl : 5 < 182) (Nat.le_add_right _ _)) (fun _ => (cC_5 _ _ _ _ _)) rfl h dX4_add_36 (fun σ3 H locs h hP hD hS => ?_)
      refine lv_aload_n hx hb dX4_add_37 rfl (lv_at hl 0 rfl) ?_
      refine lv_dup hx hb dX4_add_38 rfl ?_
      refine ux_get (D := (dC, dI)) (ci := 4) (v := .int (σ3.1 3 3)) (C := RX4) (T := TX4) (M := 4) (fs := (oNL ad (σ3.1 3))) hx hb hts (fun _ h9 => List.mem_cons_of_mem _ (List.mem_append_right _ h9)) hown hK hP 3 (Nat.lt_of_lt_of_le (Nat.le_of_ble_eq_true rfl : 3 < 182) (Nat.le_add_right _ _)) (cC_3 _ _ _ _ _) rfl 3 (by decide) (hts (.fieldLink RX4 24 "SeatsRound$NameList" "count" "I") (List.mem_of_getElem? (i := 1) rfl)) (fun _ h9 => h9) rfl dX4_add_39 ?_
      refine lv_iconst (v := 1) hx hb dX4_add_42 (by decide) ?_
      refine lv_iadd hx hb dX4_add_43 ?_
      refine ux_put (D := (dC, dI)) (ci := 4) (C := RX4) (T := TX4) (M := 4) (fs := (oNL ad (σ3.1 3))) hx hb hts (fun _ h9 => List.mem_cons_of_mem _ (List.mem_append_right _ h9)) tyX4 tyX4_ok nmX4 hown hK hP hD hS 3 (Nat.lt_of_lt_of_le (Nat.le_of_ble_eq_true rfl : 3 < 182) (Nat.le_add_right _ _)) (cC_3 _ _ _ _ _) rfl 3 (by decide) (hts (.fieldLink RX4 24 "SeatsRound$NameList" "count" "I") (List.mem_of_getElem? (i := 1) rfl)) (fun _ h9 => h9) rfl (tyX4_ok 3 (by decide)) rfl rfl (Nat.le_of_ble_eq_true rfl) (oC_3_3 _ _ _ _ _ _) h dX4_add_44 (fun σ4 H locs h hP hD hS => ?_)
      refine lv_aload_n hx hb dX4_add_47 rfl (lv_at hl 0 rfl) ?_
      refine ux_get (D := (dC, dI)) (ci := 4) (v := .int (σ4.1 3 3)) (C := RX4) (T := TX4) (M := 4) (fs := (oNL ad (σ4.1 3))) hx hb hts (fun _ h9 => List.mem_cons_of_mem _ (List.mem_append_right _ h9)) hown hK hP 3 (Nat.lt_of_lt_of_le (Nat.le_of_ble_eq_true rfl : 3 < 182) (Nat.le_add_right _ _)) (cC_3 _ _ _ _ _) rfl 3 (by decide) (hts (.fieldLink RX4 24 "SeatsRound$NameList" "count" "I") (List.mem_of_getElem? (i := 1) rfl)) (fun _ h9 => h9) rfl dX4_add_48 ?_
      refine lv_iconst (v := 1) hx hb dX4_add_51 (by decide) ?_
      refine lv_isub hx hb dX4_add_52 ?_
      exact ux_iret hx hb hr h hP hD hS hlocks dX4_add_53
    · have h := cdN hcd h
      refine lv_iconst (v := (-1)) hx hb dX4_add_9 (by decide) ?_
      exact ux_iret hx hb hr h hP hD hS hlocks dX4_add_10
  intro H locs ls h hP hD hS hl
  exact w0 σ a2 a3 H locs ls h hP hD hS (lv_sub hl [0, 1, 2, 3] rfl)

set_option maxHeartbeats 4000000 in
set_option maxRecDepth 100000 in
theorem tX4_placeOf (l : Launch) (dC : Nat → ClassId) (dI : Nat → Nat → Nat) (cy : Nat → ClassId) (ad : Nat → Nat) (τ nb : Nat) (hτ : τ < nb) (σ : S2) (a1 : Int32) (a2 : Int32) (sz : Nat) (r0 : Int32) (h : fX4_placeOf τ σ a1 a2 = some r0) : Met l yX4_placeOf wsX4_placeOf ({ frames := 1, cells := 0, slots := 0, locals := 23 }) (va_Pc [.ref (ad 3), .int a1, .int a2] (wPre (dC, dI) cy (wG (cC cy ad τ) ad (182 + 6 * nb) σ) sz)) (va_Qi (fun (r : Int32) (_ : Unit) => r = r0) (fun (_ : Unit) t => wAt (dC, dI) (va_A (wG (cC cy ad τ) ad (182 + 6 * nb) σ) sz) (wG (cC cy ad τ) ad (182 + 6 * nb) σ) t) (va_A (wG (cC cy ad τ) ad (182 + 6 * nb) σ) sz)) 0 0 (va_A (wG (cC cy ad τ) ad (182 + 6 * nb) σ) sz) := by
  refine Met.ofW (cc := cX4_placeOf) (maxL := 5) (ret := (some .int)) (by decide) rfl ?_
  intro p e s m args below meth c s₁ B hml hv
  obtain ⟨rfl, hsz, hP, hK, hD0, hN⟩ := hv
  have hx := B.exec
  have hb := B.bytes
  have hr := B.returns
  have hts := atoms_spec (ws := wsX4_placeOf) B.pre
  have hown : s.vm.findClass RX4 = some m.cls := findClass_of_methodNamed B.named
  have hlocks := B.notSynchronized
  subst hsz
  have hD := hD0.self (sz := s.heap.size)
  generalize hAe : va_A (wG (cC cy ad τ) ad (182 + 6 * nb) σ) s.heap.size = A at hD ⊢
  have hA : ∀ q : Nat, s.heap.size ≤ q → A q := fun q h => by rw [← hAe]; exact Or.inr h
  have hS : va_S A s.heap s.heap [] := va_S.rf
  have hl := lv_entry ([.ref (ad 3), .int a1, .int a2]) (n := 5) (Nat.le_of_ble_eq_true rfl)
  rw [lg_entry_eq]
  generalize (lg_sl ([.ref (ad 3), .int a1, .int a2]) ++ List.replicate (5 - (lg_sl ([.ref (ad 3), .int a1, .int a2])).length) Slot.unset).toArray = ls at hl ⊢
  have hl : lv_has ls 5 [(0, .ref (ad 3)), (1, .int a1), (2, .int a2)] := hl
  unfold fX4_placeOf at h
  clear hAe hD0
  suffices HH : ∀ (H : Heap) (locs : List Loc) (ls : Array Slot), fX4_placeOf_0 τ σ a1 a2 = some r0 → va_P (dC, dI) vwCl (wG (cC cy ad τ) ad (182 + 6 * nb) σ) H → va_D A (wG (cC cy ad τ) ad (182 + 6 * nb) σ) → va_S A s.heap H locs → lv_has ls 5 [(0, .ref (ad 3)), (1, .int a1), (2, .int a2)] → W p l e (headSpec wsX4_placeOf ({ frames := 1, cells := 0, slots := 0, locals := 23 })).room s m (#[.ref (ad 3), .int a1, .int a2]) below meth c H locs 0 0 (MQ below (va_Qi (fun (r : Int32) (_ : Unit) => r = r0) (fun (_ : Unit) t => wAt (dC, dI) A (wG (cC cy ad τ) ad (182 + 6 * nb) σ) t) A) (#[.ref (ad 3), .int a1, .int a2]) s 0 0 A) (F0 m 0 ls []) from HH s.heap [] ls h hP hD hS hl
  have w5 : ∀ (n : Nat), ∀ (σ : S2) (x1 : Int32) (x3 : Int32) (x4 : Int32) (H : Heap) (locs : List Loc) (ls : Array Slot), fX4_placeOf_5 τ n σ x1 x3 x4 = some r0 → va_P (dC, dI) vwCl (wG (cC cy ad τ) ad (182 + 6 * nb) σ) H → va_D A (wG (cC cy ad τ) ad (182 + 6 * nb) σ) → va_S A s.heap H locs → lv_has ls 5 [(0, .ref (ad 3)), (1, .int x1), (3, .int x3), (4, .int x4)] → W p l e (headSpec wsX4_placeOf ({ frames := 1, cells := 0, slots := 0, locals := 23 })).room s m (#[.ref (ad 3), .int a1, .int a2]) below meth c H locs 0 0 (MQ below (va_Qi (fun (r : Int32) (_ : Unit) => r = r0) (fun (_ : Unit) t => wAt (dC, dI) A (wG (cC cy ad τ) ad (182 + 6 * nb) σ) t) A) (#[.ref (ad 3), .int a1, .int a2]) s 0 0 A) (F0 m 5 ls []) := by
    intro n
    induction n with
    | zero => intro σ x1 x3 x4 H locs ls h; cases h
    | succ n ih =>
    intro σ x1 x3 x4 H locs ls h hP hD hS hl
    unfold fX4_placeOf_5 at h
    refine lv_iload hx hb dX4_placeOf_5 (lv_at hl 3 rfl) ?_
    refine lv_aload_n hx hb dX4_placeOf_7 rfl (lv_at hl 0 rfl) ?_
    refine ux_get (D := (dC, dI)) (ci := 4) (v := .ref (ad 5)) (C := RX4) (T := TX4) (M := 4) (fs := (oNL ad (σ.1 3))) hx hb hts (fun _ h9 => List.mem_cons_of_mem _ (List.mem_append_right _ h9)) hown hK hP 3 (Nat.lt_of_lt_of_le (Nat.le_of_ble_eq_true rfl : 3 < 182) (Nat.le_add_right _ _)) (cC_3 _ _ _ _ _) rfl 1 (by decide) (hts (.fieldLink RX4 16 "SeatsRound$NameList" "size" "[I") (List.mem_of_getElem? (i := 1) rfl)) (fun _ h9 => h9) rfl dX4_placeOf_8 ?_
    refine lv_iload_n hx hb dX4_placeOf_11 rfl (lv_at hl 1 rfl) ?_
    refine ux_iald hx hb hK hP 5 0 (Nat.lt_of_lt_of_le (Nat.le_of_ble_eq_true rfl : 5 < 182) (Nat.le_add_right _ _)) (cC_5 _ _ _ _ _) rfl h dX4_placeOf_12 (fun v1 h => ?_)
    refine lv_icmp_ge (tgt := 41) hx hb dX4_placeOf_13 (by decide) (fun hcd => ?_) (fun hcd => ?_)
    · have h := cdP hcd h
      refine lv_iload_n hx hb dX4_placeOf_41 rfl (lv_at hl 2 rfl) ?_
      refine lv_bipush (v := 7) hx hb dX4_placeOf_42 (by decide) ?_
      refine lv_iushr hx hb dX4_placeOf_44 rfl ?_
      refine lv_sipush (v := 1000) hx hb dX4_placeOf_45 (by decide) ?_
      obtain ⟨hz2, h⟩ := dzS h
      refine lv_irem hx hb dX4_placeOf_48 hz2 ?_
      exact ux_iretP hx hb hr h hP hD hS hlocks dX4_placeOf_49
    · have h := cdN hcd h
      refine lv_iload_n hx hb dX4_placeOf_16 rfl (lv_at hl 2 rfl) ?_
      refine lv_aload_n hx hb dX4_placeOf_17 rfl (lv_at hl 0 rfl) ?_
      refine ux_get (D := (dC, dI)) (ci := 4) (v := .ref (ad 4)) (C := RX4) (T := TX4) (M := 4) (fs := (oNL ad (σ.1 3))) hx hb hts (fun _ h9 => List.mem_cons_of_mem _ (List.mem_append_right _ h9)) hown hK hP 3 (Nat.lt_of_lt_of_le (Nat.le_of_ble_eq_true rfl : 3 < 182) (Nat.le_add_right _ _)) (cC_3 _ _ _ _ _) rfl 0 (by decide) (hts (.fieldLink RX4 11 "SeatsRound$NameList" "bytes" "[[B") (List.mem_of_getElem? (i := 2) rfl)) (fun _ h9 => h9) rfl dX4_placeOf_18 ?_
      refine lv_iload_n hx hb dX4_placeOf_21 rfl (lv_at hl 1 rfl) ?_
      obtain ⟨hii3, h⟩ := ckS h
      have hri3 := vp_lt hii3
      refine vz_aldg hx hb hK hP 4 5 (wG_of (Nat.lt_of_lt_of_le (Nat.le_of_ble_eq_true rfl : 4 < 182) (Nat.le_add_right _ _)) (cC_4 _ _ _ _ _)) rfl hii3 (if_pos hri3) dX4_placeOf_22 ?_
      refine lv_iload hx hb dX4_placeOf_23 (lv_at hl 3 rfl) ?_
      refine ux_bald hx hb hK hP (44 + Int32.toNatClampNeg x1) 1 (by omega) (cC_r0 _ _ _ _ _ _ (by omega)) rfl h dX4_placeOf_25 (fun v4 h => ?_)
      refine lv_sipush (v := 255) hx hb dX4_placeOf_26 (by decide) ?_
      refine lv_iand hx hb dX4_placeOf_29 ?_
      refine lv_ixor hx hb dX4_placeOf_30 ?_
      refine lv_ldc hx hb hown (hts (.constant RX4 38 (16777619)) (List.mem_of_getElem? (i := 3) rfl)) dX4_placeOf_31 ?_
      refine lv_imul hx hb dX4_placeOf_33 ?_
      refine lv_topi (fun v5 ev5 => ?_)
      have h := nmS h ev5
      refine lv_istore_n (lv' := [(3, .int v5), (0, .ref (ad 3)), (1, .int x1), (4, .int x4)]) hx hb dX4_placeOf_34 rfl hl (by decide) rfl (fun ls hl => ?_)
      have hl := lv_sub hl [1, 2, 0, 3] (l' := [(0, .ref (ad 3)), (1, .int x1), (3, .int v5), (4, .int x4)]) rfl
      obtain ⟨v6, ev6⟩ : ∃ y : Int32, y = x4 + 1 := ⟨_, rfl⟩
      have h := nmS h ev6
      refine lv_iinc (v := v6) (lv' := [(4, .int v6), (0, .ref (ad 3)), (1, .int x1), (3, .int v5)]) hx hb dX4_placeOf_35 hl (k := 3) rfl (by rw [ev6]; rfl) (by decide) rfl (fun ls hl => ?_)
      have hl := lv_sub hl [1, 2, 3, 0] (l' := [(0, .ref (ad 3)), (1, .int x1), (3, .int v5), (4, .int v6)]) rfl
      refine lv_goto (tgt := 5) hx hb dX4_placeOf_38 (by decide) ?_
      exact ih σ x1 v5 v6 H locs ls h hP hD hS hl
  have w0 : ∀ (σ : S2) (x1 : Int32) (x2 : Int32) (H : Heap) (locs : List Loc) (ls : Array Slot), fX4_placeOf_0 τ σ x1 x2 = some r0 → va_P (dC, dI) vwCl (wG (cC cy ad τ) ad (182 + 6 * nb) σ) H → va_D A (wG (cC cy ad τ) ad (182 + 6 * nb) σ) → va_S A s.heap H locs → lv_has ls 5 [(0, .ref (ad 3)), (1, .int x1), (2, .int x2)] → W p l e (headSpec wsX4_placeOf ({ frames := 1, cells := 0, slots := 0, locals := 23 })).room s m (#[.ref (ad 3), .int a1, .int a2]) below meth c H locs 0 0 (MQ below (va_Qi (fun (r : Int32) (_ : Unit) => r = r0) (fun (_ : Unit) t => wAt (dC, dI) A (wG (cC cy ad τ) ad (182 + 6 * nb) σ) t) A) (#[.ref (ad 3), .int a1, .int a2]) s 0 0 A) (F0 m 0 ls []) := by
    intro σ x1 x2 H locs ls h hP hD hS hl
    unfold fX4_placeOf_0 at h
    refine lv_iload_n hx hb dX4_placeOf_0 rfl (lv_at hl 2 rfl) ?_
    refine lv_istore_n (lv' := [(3, .int x2), (0, .ref (ad 3)), (1, .int x1), (2, .int x2)]) hx hb dX4_placeOf_1 rfl hl (by decide) rfl (fun ls hl => ?_)
    have hl := lv_sub hl [1, 2, 3, 0] (l' := [(0, .ref (ad 3)), (1, .int x1), (2, .int x2), (3, .int x2)]) rfl
    refine lv_iconst (v := 0) hx hb dX4_placeOf_2 (by decide) ?_
    refine lv_istore (lv' := [(4, .int 0), (0, .ref (ad 3)), (1, .int x1), (2, .int x2), (3, .int x2)]) hx hb dX4_placeOf_3 hl (by decide) rfl (fun ls hl => ?_)
    have hl := lv_sub hl [1, 2, 3, 4, 0] (l' := [(0, .ref (ad 3)), (1, .int x1), (2, .int x2), (3, .int x2), (4, .int 0)]) rfl
    exact w5 FU σ x1 x2 0 H locs ls h hP hD hS (lv_sub hl [0, 1, 3, 4] rfl)
  intro H locs ls h hP hD hS hl
  exact w0 σ a1 a2 H locs ls h hP hD hS (lv_sub hl [0, 1, 2] rfl)

set_option maxHeartbeats 4000000 in
set_option maxRecDepth 100000 in
theorem tX4_addFrom (l : Launch) (dC : Nat → ClassId) (dI : Nat → Nat → Nat) (cy : Nat → ClassId) (ad : Nat → Nat) (τ nb : Nat) (hτ : τ < nb) (c1 n1 : Nat) (hc1 : c1 < 182 + 6 * nb) (hs1 : ∀ (g : Nat → Int32) (q : Nat → Int64), cC cy ad τ c1 g q = .inl (cy 4, n1, .inr (.inl q))) (σ : S2) (a2 : Int32) (a3 : Int32) (a4 : Int32) (sz : Nat) (r0 : Int32) (σ9 : S2) (h : fX4_addFrom τ c1 n1 σ a2 a3 a4 = some (r0, σ9)) : Met l yX4_addFrom wsX4_addFrom ({ frames := 3, cells := 0, slots := 0, locals := 83 }) (va_Pc [.ref (ad 3), .ref (ad c1), .int a2, .int a3, .int a4] (wPre (dC, dI) cy (wG (cC cy ad τ) ad (182 + 6 * nb) σ) sz)) (va_Qi (fun (r : Int32) (_ : Unit) => r = r0) (fun (_ : Unit) t => wAt (dC, dI) (va_A (wG (cC cy ad τ) ad (182 + 6 * nb) σ) sz) (wG (cC cy ad τ) ad (182 + 6 * nb) σ9) t) (va_A (wG (cC cy ad τ) ad (182 + 6 * nb) σ) sz)) 0 0 (va_A (wG (cC cy ad τ) ad (182 + 6 * nb) σ) sz) := by
  refine Met.ofW (cc := cX4_addFrom) (maxL := 12) (ret := (some .int)) (by decide) rfl ?_
  intro p e s m args below meth c s₁ B hml hv
  obtain ⟨rfl, hsz, hP, hK, hD0, hN⟩ := hv
  have hx := B.exec
  have hb := B.bytes
  have hr := B.returns
  have hts := atoms_spec (ws := wsX4_addFrom) B.pre
  have hown : s.vm.findClass RX4 = some m.cls := findClass_of_methodNamed B.named
  have hlocks := B.notSynchronized
  subst hsz
  have hD := hD0.self (sz := s.heap.size)
  generalize hAe : va_A (wG (cC cy ad τ) ad (182 + 6 * nb) σ) s.heap.size = A at hD ⊢
  have hA : ∀ q : Nat, s.heap.size ≤ q → A q := fun q h => by rw [← hAe]; exact Or.inr h
  have hS : va_S A s.heap s.heap [] := va_S.rf
  have hl := lv_entry ([.ref (ad 3), .ref (ad c1), .int a2, .int a3, .int a4]) (n := 12) (Nat.le_of_ble_eq_true rfl)
  rw [lg_entry_eq]
  generalize (lg_sl ([.ref (ad 3), .ref (ad c1), .int a2, .int a3, .int a4]) ++ List.replicate (12 - (lg_sl ([.ref (ad 3), .ref (ad c1), .int a2, .int a3, .int a4])).length) Slot.unset).toArray = ls at hl ⊢
  have hl : lv_has ls 12 [(0, .ref (ad 3)), (1, .ref (ad c1)), (2, .int a2), (3, .int a3), (4, .int a4)] := hl
  unfold fX4_addFrom at h
  clear hAe hD0
  suffices HH : ∀ (H : Heap) (locs : List Loc) (ls : Array Slot), fX4_addFrom_0 τ c1 n1 σ a2 a3 a4 = some (r0, σ9) → va_P (dC, dI) vwCl (wG (cC cy ad τ) ad (182 + 6 * nb) σ) H → va_D A (wG (cC cy ad τ) ad (182 + 6 * nb) σ) → va_S A s.heap H locs → lv_has ls 12 [(0, .ref (ad 3)), (1, .ref (ad c1)), (2, .int a2), (3, .int a3), (4, .int a4)] → W p l e (headSpec wsX4_addFrom ({ frames := 3, cells := 0, slots := 0, locals := 83 })).room s m (#[.ref (ad 3), .ref (ad c1), .int a2, .int a3, .int a4]) below meth c H locs 0 0 (MQ below (va_Qi (fun (r : Int32) (_ : Unit) => r = r0) (fun (_ : Unit) t => wAt (dC, dI) A (wG (cC cy ad τ) ad (182 + 6 * nb) σ9) t) A) (#[.ref (ad 3), .ref (ad c1), .int a2, .int a3, .int a4]) s 0 0 A) (F0 m 0 ls []) from HH s.heap [] ls h hP hD hS hl
  have w153 : ∀ (k9 : S2 → Int32 → Int32 → Int32 → Int32 → Int32 → Option (Int32 × S2)) (hk9 : ∀ (σ : S2) (x2 : Int32) (x4 : Int32) (x5 : Int32) (x6 : Int32) (x7 : Int32) (H : Heap) (locs : List Loc) (ls : Array Slot), k9 σ x2 x4 x5 x6 x7 = some (r0, σ9) → va_P (dC, dI) vwCl (wG (cC cy ad τ) ad (182 + 6 * nb) σ) H → va_D A (wG (cC cy ad τ) ad (182 + 6 * nb) σ) → va_S A s.heap H locs → lv_has ls 12 [(0, .ref (ad 3)), (1, .ref (ad c1)), (2, .int x2), (4, .int x4), (5, .int x5), (6, .int x6), (7, .int x7)] → W p l e (headSpec wsX4_addFrom ({ frames := 3, cells := 0, slots := 0, locals := 83 })).room s m (#[.ref (ad 3), .ref (ad c1), .int a2, .int a3, .int a4]) below meth c H locs 0 0 (MQ below (va_Qi (fun (r : Int32) (_ : Unit) => r = r0) (fun (_ : Unit) t => wAt (dC, dI) A (wG (cC cy ad τ) ad (182 + 6 * nb) σ9) t) A) (#[.ref (ad 3), .ref (ad c1), .int a2, .int a3, .int a4]) s 0 0 A) (F0 m 9 ls [])) , ∀ (σ : S2) (x2 : Int32) (x4 : Int32) (x5 : Int32) (x6 : Int32) (x7 : Int32) (H : Heap) (locs : List Loc) (ls : Array Slot), fX4_addFrom_153 τ c1 n1 k9 σ x2 x4 x5 x6 x7 = some (r0, σ9) → va_P (dC, dI) vwCl (wG (cC cy ad τ) ad (182 + 6 * nb) σ) H → va_D A (wG (cC cy ad τ) ad (182 + 6 * nb) σ) → va_S A s.heap H locs → lv_has ls 12 [(0, .ref (ad 3)), (1, .ref (ad c1)), (2, .int x2), (4, .int x4), (5, .int x5), (6, .int x6), (7, .int x7)] → W p l e (headSpec wsX4_addFrom ({ frames := 3, cells := 0, slots := 0, locals := 83 })).room s m (#[.ref (ad 3), .ref (ad c1), .int a2, .int a3, .int a4]) below meth c H locs 0 0 (MQ below (va_Qi (fun (r : Int32) (_ : Unit) => r = r0) (fun (_ : Unit) t => wAt (dC, dI) A (wG (cC cy ad τ) ad (182 + 6 * nb) σ9) t) A) (#[.ref (ad 3), .ref (ad c1), .int a2, .int a3, .int a4]) s 0 0 A) (F0 m 153 ls []) := by
    intro k9 hk9 σ x2 x4 x5 x6 x7 H locs ls h hP hD hS hl
    unfold fX4_addFrom_153 at h
    obtain ⟨v1, ev1⟩ : ∃ y : Int32, y = x7 + 1 := ⟨_, rfl⟩
    have h := nmS h ev1
    refine lv_iinc (v := v1) (lv' := [(7, .int v1), (0, .ref (ad 3)), (1, .ref (ad c1)), (2, .int x2), (4, .int x4), (5, .int x5), (6, .int x6)]) hx hb dX4_addFrom_153 hl (k := 6) rfl (by rw [ev1]; rfl) (by decide) rfl (fun ls hl => ?_)
    have hl := lv_sub hl [1, 2, 3, 4, 5, 6, 0] (l' := [(0, .ref (ad 3)), (1, .ref (ad c1)), (2, .int x2), (4, .int x4), (5, .int x5), (6, .int x6), (7, .int v1)]) rfl
    refine lv_goto (tgt := 9) hx hb dX4_addFrom_156 (by decide) ?_
    exact hk9 σ x2 x4 x5 x6 v1 H locs ls h hP hD hS hl
  have w74 : ∀ (k9 : S2 → Int32 → Int32 → Int32 → Int32 → Int32 → Option (Int32 × S2)) (hk9 : ∀ (σ : S2) (x2 : Int32) (x4 : Int32) (x5 : Int32) (x6 : Int32) (x7 : Int32) (H : Heap) (locs : List Loc) (ls : Array Slot), k9 σ x2 x4 x5 x6 x7 = some (r0, σ9) → va_P (dC, dI) vwCl (wG (cC cy ad τ) ad (182 + 6 * nb) σ) H → va_D A (wG (cC cy ad τ) ad (182 + 6 * nb) σ) → va_S A s.heap H locs → lv_has ls 12 [(0, .ref (ad 3)), (1, .ref (ad c1)), (2, .int x2), (4, .int x4), (5, .int x5), (6, .int x6), (7, .int x7)] → W p l e (headSpec wsX4_addFrom ({ frames := 3, cells := 0, slots := 0, locals := 83 })).room s m (#[.ref (ad 3), .ref (ad c1), .int a2, .int a3, .int a4]) below meth c H locs 0 0 (MQ below (va_Qi (fun (r : Int32) (_ : Unit) => r = r0) (fun (_ : Unit) t => wAt (dC, dI) A (wG (cC cy ad τ) ad (182 + 6 * nb) σ9) t) A) (#[.ref (ad 3), .ref (ad c1), .int a2, .int a3, .int a4]) s 0 0 A) (F0 m 9 ls [])) (n : Nat), ∀ (σ : S2) (x2 : Int32) (x4 : Int32) (x5 : Int32) (x6 : Int32) (x7 : Int32) (x10 : Int32) (x11 : Int32) (H : Heap) (locs : List Loc) (ls : Array Slot), fX4_addFrom_74 τ c1 n1 k9 n σ x2 x4 x5 x6 x7 x10 x11 = some (r0, σ9) → va_P (dC, dI) vwCl (wG (cC cy ad τ) ad (182 + 6 * nb) σ) H → va_D A (wG (cC cy ad τ) ad (182 + 6 * nb) σ) → va_S A s.heap H locs → lv_has ls 12 [(0, .ref (ad 3)), (1, .ref (ad c1)), (2, .int x2), (4, .int x4), (5, .int x5), (6, .int x6), (7, .int x7), (10, .int x10), (11, .int x11)] → W p l e (headSpec wsX4_addFrom ({ frames := 3, cells := 0, slots := 0, locals := 83 })).room s m (#[.ref (ad 3), .ref (ad c1), .int a2, .int a3, .int a4]) below meth c H locs 0 0 (MQ below (va_Qi (fun (r : Int32) (_ : Unit) => r = r0) (fun (_ : Unit) t => wAt (dC, dI) A (wG (cC cy ad τ) ad (182 + 6 * nb) σ9) t) A) (#[.ref (ad 3), .ref (ad c1), .int a2, .int a3, .int a4]) s 0 0 A) (F0 m 74 ls []) := by
    intro k9 hk9 n
    induction n with
    | zero => intro σ x2 x4 x5 x6 x7 x10 x11 H locs ls h; cases h
    | succ n ih =>
    intro σ x2 x4 x5 x6 x7 x10 x11 H locs ls h hP hD hS hl
    unfold fX4_addFrom_74 at h
    refine lv_iload hx hb dX4_addFrom_74 (lv_at hl 8 rfl) ?_
    refine lv_iload hx hb dX4_addFrom_76 (lv_at hl 7 rfl) ?_
    refine lv_icmp_ge (tgt := 105) hx hb dX4_addFrom_78 (by decide) (fun hcd => ?_) (fun hcd => ?_)
    · have h := cdP hcd h
      refine lv_iload hx hb dX4_addFrom_105 (lv_at hl 5 rfl) ?_
      refine lv_iconst (v := 1) hx hb dX4_addFrom_107 (by decide) ?_
      refine lv_iload hx hb dX4_addFrom_108 (lv_at hl 7 rfl) ?_
      refine lv_iadd hx hb dX4_addFrom_110 ?_
      refine lv_iadd hx hb dX4_addFrom_111 ?_
      refine lv_topi (fun v2 ev2 => ?_)
      have h := nmS h ev2
      refine lv_istore (lv' := [(6, .int v2), (0, .ref (ad 3)), (1, .ref (ad c1)), (2, .int x2), (4, .int x4), (5, .int x5), (7, .int x7), (10, .int x10), (11, .int x11)]) hx hb dX4_addFrom_112 hl (by decide) rfl (fun ls hl => ?_)
      have hl := lv_sub hl [1, 2, 3, 4, 5, 0, 6, 7, 8] (l' := [(0, .ref (ad 3)), (1, .ref (ad c1)), (2, .int x2), (4, .int x4), (5, .int x5), (6, .int v2), (7, .int x7), (10, .int x10), (11, .int x11)]) rfl
      refine lv_aload_n hx hb dX4_addFrom_114 rfl (lv_at hl 0 rfl) ?_
      refine lv_aload_n hx hb dX4_addFrom_115 rfl (lv_at hl 0 rfl) ?_
      refine ux_get (D := (dC, dI)) (ci := 4) (v := .ref (ad 6)) (C := RX4) (T := TX4) (M := 4) (fs := (oNL ad (σ.1 3))) hx hb hts (fun _ h9 => List.mem_cons_of_mem _ (List.mem_append_right _ h9)) hown hK hP 3 (Nat.lt_of_lt_of_le (Nat.le_of_ble_eq_true rfl : 3 < 182) (Nat.le_add_right _ _)) (cC_3 _ _ _ _ _) rfl 2 (by decide) (hts (.fieldLink RX4 20 "SeatsRound$NameList" "read" "[B") (List.mem_of_getElem? (i := 2) rfl)) (fun _ h9 => h9) rfl dX4_addFrom_116 ?_
      refine lv_iconst (v := 0) hx hb dX4_addFrom_119 (by decide) ?_
      refine lv_iload hx hb dX4_addFrom_120 (lv_at hl 7 rfl) ?_
      obtain ⟨r3, hf4, h⟩ := biS h
      refine ux_calli (va_runV (As := [.ref (ad 6), .int 0, .int x10]) (rest := []) ⟨hx, hb, hml, hown, hts⟩ (tX4_find l dC dI cy ad τ nb hτ 6 6 (Nat.lt_of_lt_of_le (Nat.le_of_ble_eq_true rfl : 6 < 182) (Nat.le_add_right _ _)) (fun _ _ => (cC_6 _ _ _ _ _)) σ 0 x10 H.size r3 hf4) (cwV 3 hts gX4_addFrom_X4_find rfl rfl rfl (by decide +kernel) ⟨Nat.le_of_ble_eq_true rfl, Nat.le_of_ble_eq_true rfl⟩) (wp_V hK hN hP hD (va_recv hK hP (ci := 4) (q0 := 3) rfl (wG_of (Nat.lt_of_lt_of_le (Nat.le_of_ble_eq_true rfl : 3 < 182) (Nat.le_add_right _ _)) (cC_3 _ _ _ _ _)))) rfl rfl hl.1 rfl (lv_room (Nat.le_of_ble_eq_true rfl)) dX4_addFrom_122 ⟨Nat.le_of_ble_eq_true rfl, Nat.le_of_ble_eq_true rfl⟩) hD hS hA (fun H locs hP hD hS => ?_)
      refine lv_iconst (v := (-1)) hx hb dX4_addFrom_125 (by decide) ?_
      refine lv_icmp_eq (tgt := 132) hx hb dX4_addFrom_126 (by decide) (fun hcd => ?_) (fun hcd => ?_)
      · have h := cdP hcd h
        refine lv_aload_n hx hb dX4_addFrom_132 rfl (lv_at hl 0 rfl) ?_
        refine lv_aload_n hx hb dX4_addFrom_133 rfl (lv_at hl 0 rfl) ?_
        refine ux_get (D := (dC, dI)) (ci := 4) (v := .ref (ad 6)) (C := RX4) (T := TX4) (M := 4) (fs := (oNL ad (σ.1 3))) hx hb hts (fun _ h9 => List.mem_cons_of_mem _ (List.mem_append_right _ h9)) hown hK hP 3 (Nat.lt_of_lt_of_le (Nat.le_of_ble_eq_true rfl : 3 < 182) (Nat.le_add_right _ _)) (cC_3 _ _ _ _ _) rfl 2 (by decide) (hts (.fieldLink RX4 20 "SeatsRound$NameList" "read" "[B") (List.mem_of_getElem? (i := 2) rfl)) (fun _ h9 => h9) rfl dX4_addFrom_134 ?_
        refine lv_iconst (v := 0) hx hb dX4_addFrom_137 (by decide) ?_
        refine lv_iload hx hb dX4_addFrom_138 (lv_at hl 7 rfl) ?_
        obtain ⟨r5, σ6, hf7, h⟩ := bsS h
        refine ux_calli (va_runV (As := [.ref (ad 6), .int 0, .int x10]) (rest := []) ⟨hx, hb, hml, hown, hts⟩ (tX4_add l dC dI cy ad τ nb hτ 6 6 (Nat.lt_of_lt_of_le (Nat.le_of_ble_eq_true rfl : 6 < 182) (Nat.le_add_right _ _)) (fun _ _ => (cC_6 _ _ _ _ _)) σ 0 x10 H.size r5 σ6 hf7) (cwV 3 hts gX4_addFrom_X4_add rfl rfl rfl (by decide +kernel) ⟨Nat.le_of_ble_eq_true rfl, Nat.le_of_ble_eq_true rfl⟩) (wp_V hK hN hP hD (va_recv hK hP (ci := 4) (q0 := 3) rfl (wG_of (Nat.lt_of_lt_of_le (Nat.le_of_ble_eq_true rfl : 3 < 182) (Nat.le_add_right _ _)) (cC_3 _ _ _ _ _)))) rfl rfl hl.1 rfl (lv_room (Nat.le_of_ble_eq_true rfl)) dX4_addFrom_140 ⟨Nat.le_of_ble_eq_true rfl, Nat.le_of_ble_eq_true rfl⟩) hD hS hA (fun H locs hP hD hS => ?_)
        refine lv_iconst (v := (-1)) hx hb dX4_addFrom_143 (by decide) ?_
        refine lv_icmp_ne (tgt := 150) hx hb dX4_addFrom_144 (by decide) (fun hcd => ?_) (fun hcd => ?_)
        · have h := cdN hcd h
          obtain ⟨v8, ev8⟩ : ∃ y : Int32, y = x5 + 1 := ⟨_, rfl⟩
          have h := nmS h ev8
          refine lv_iinc (v := v8) (lv' := [(5, .int v8), (0, .ref (ad 3)), (1, .ref (ad c1)), (2, .int x2), (4, .int x4), (6, .int v2), (7, .int x7), (10, .int x10), (11, .int x11)]) hx hb dX4_addFrom_150 hl (k := 4) rfl (by rw [ev8]; rfl) (by decide) rfl (fun ls hl => ?_)
          have hl := lv_sub hl [1, 2, 3, 4, 0, 5, 6, 7, 8] (l' := [(0, .ref (ad 3)), (1, .ref (ad c1)), (2, .int x2), (4, .int x4), (5, .int v8), (6, .int v2), (7, .int x7), (10, .int x10), (11, .int x11)]) rfl
          exact w153 _ hk9 σ6 x2 x4 v8 v2 x7 H locs ls h hP hD hS (lv_sub hl [0, 1, 2, 3, 4, 5, 6] rfl)
        · have h := cdP hcd h
          refine lv_iload hx hb dX4_addFrom_147 (lv_at hl 4 rfl) ?_
          exact ux_iret hx hb hr h hP hD hS hlocks dX4_addFrom_149
      · have h := cdN hcd h
        refine lv_goto (tgt := 153) hx hb dX4_addFrom_129 (by decide) ?_
        exact w153 _ hk9 σ x2 x4 x5 v2 x7 H locs ls h hP hD hS (lv_sub hl [0, 1, 2, 3, 4, 5, 6] rfl)
    · have h := cdN hcd h
      refine lv_aload_n hx hb dX4_addFrom_81 rfl (lv_at hl 0 rfl) ?_
      refine ux_get (D := (dC, dI)) (ci := 4) (v := .ref (ad 6)) (C := RX4) (T := TX4) (M := 4) (fs := (oNL ad (σ.1 3))) hx hb hts (fun _ h9 => List.mem_cons_of_mem _ (List.mem_append_right _ h9)) hown hK hP 3 (Nat.lt_of_lt_of_le (Nat.le_of_ble_eq_true rfl : 3 < 182) (Nat.le_add_right _ _)) (cC_3 _ _ _ _ _) rfl 2 (by decide) (hts (.fieldLink RX4 20 "SeatsRound$NameList" "read" "[B") (List.mem_of_getElem? (i := 2) rfl)) (fun _ h9 => h9) rfl dX4_addFrom_82 ?_
      refine lv_iload hx hb dX4_addFrom_85 (lv_at hl 8 rfl) ?_
      refine lv_aload_n hx hb dX4_addFrom_87 rfl (lv_at hl 1 rfl) ?_
      refine lv_iload hx hb dX4_addFrom_88 (lv_at hl 5 rfl) ?_
      refine lv_iconst (v := 1) hx hb dX4_addFrom_90 (by decide) ?_
      refine lv_iadd hx hb dX4_addFrom_91 ?_
      refine lv_iload hx hb dX4_addFrom_92 (lv_at hl 8 rfl) ?_
      change W _ _ _ _ _ _ _ _ _ _ _ _ _ _ _ (F0 m 94 ls [.int x11, .int (x6 + 1), .ref (ad c1), .int x11, .ref (ad 6)])
      refine lv_iadd hx hb dX4_addFrom_94 ?_
      refine ux_lald hx hb hK hP c1 4 hc1 (hs1 _ _) rfl h dX4_addFrom_95 (fun v9 h => ?_)
      refine lv_l2i hx hb dX4_addFrom_96 rfl ?_
      refine lv_i2b hx hb dX4_addFrom_97 rfl ?_
      refine ux_bast hx hb hK hP hD hS 6 1 (Nat.lt_of_lt_of_le (Nat.le_of_ble_eq_true rfl : 6 < 182) (Nat.le_add_right _ _)) (fun _ => (cC_6 _ _ _ _ _)) rfl h dX4_addFrom_98 (fun σ10 H locs h hP hD hS => ?_)
      obtain ⟨v11, ev11⟩ : ∃ y : Int32, y = x11 + 1 := ⟨_, rfl⟩
      have h := nmS h ev11
      refine lv_iinc (v := v11) (lv' := [(11, .int v11), (0, .ref (ad 3)), (1, .ref (ad c1)), (2, .int x2), (4, .int x4), (5, .int x5), (6, .int x6), (7, .int x7), (10, .int x10)]) hx hb dX4_addFrom_99 hl (k := 8) rfl (by rw [ev11]; rfl) (by decide) rfl (fun ls hl => ?_)
      have hl := lv_sub hl [1, 2, 3, 4, 5, 6, 7, 8, 0] (l' := [(0, .ref (ad 3)), (1, .ref (ad c1)), (2, .int x2), (4, .int x4), (5, .int x5), (6, .int x6), (7, .int x7), (10, .int x10), (11, .int v11)]) rfl
      refine lv_goto (tgt := 74) hx hb dX4_addFrom_102 (by decide) ?_
      exact ih σ10 x2 x4 x5 x6 x7 x10 v11 H locs ls h hP hD hS hl
  have w9 : ∀ (n : Nat), ∀ (σ : S2) (x2 : Int32) (x4 : Int32) (x5 : Int32) (x6 : Int32) (x7 : Int32) (H : Heap) (locs : List Loc) (ls : Array Slot), fX4_addFrom_9 τ c1 n1 n σ x2 x4 x5 x6 x7 = some (r0, σ9) → va_P (dC, dI) vwCl (wG (cC cy ad τ) ad (182 + 6 * nb) σ) H → va_D A (wG (cC cy ad τ) ad (182 + 6 * nb) σ) → va_S A s.heap H locs → lv_has ls 12 [(0, .ref (ad 3)), (1, .ref (ad c1)), (2, .int x2), (4, .int x4), (5, .int x5), (6, .int x6), (7, .int x7)] → W p l e (headSpec wsX4_addFrom ({ frames := 3, cells := 0, slots := 0, locals := 83 })).room s m (#[.ref (ad 3), .ref (ad c1), .int a2, .int a3, .int a4]) below meth c H locs 0 0 (MQ below (va_Qi (fun (r : Int32) (_ : Unit) => r = r0) (fun (_ : Unit) t => wAt (dC, dI) A (wG (cC cy ad τ) ad (182 + 6 * nb) σ9) t) A) (#[.ref (ad 3), .ref (ad c1), .int a2, .int a3, .int a4]) s 0 0 A) (F0 m 9 ls []) := by
    intro n
    induction n with
    | zero => intro σ x2 x4 x5 x6 x7 H locs ls h; cases h
    | succ n ih =>
    intro σ x2 x4 x5 x6 x7 H locs ls h hP hD hS hl
    unfold fX4_addFrom_9 at h
    refine lv_iload hx hb dX4_addFrom_9 (lv_at hl 6 rfl) ?_
    refine lv_iload hx hb dX4_addFrom_11 (lv_at hl 3 rfl) ?_
    refine lv_icmp_ge (tgt := 159) hx hb dX4_addFrom_13 (by decide) (fun hcd => ?_) (fun hcd => ?_)
    · have h := cdP hcd h
      refine lv_iload hx hb dX4_addFrom_159 (lv_at hl 4 rfl) ?_
      exact ux_iret hx hb hr h hP hD hS hlocks dX4_addFrom_161
    · have h := cdN hcd h
      refine lv_iload hx hb dX4_addFrom_16 (lv_at hl 5 rfl) ?_
      refine lv_if_lt (tgt := 27) hx hb dX4_addFrom_18 (by decide) (fun hcd => ?_) (fun hcd => ?_)
      · have h := cdP hcd h
        refine lv_iload hx hb dX4_addFrom_27 (lv_at hl 4 rfl) ?_
        exact ux_iret hx hb hr h hP hD hS hlocks dX4_addFrom_29
      · have h := cdN hcd h
        refine lv_iload hx hb dX4_addFrom_21 (lv_at hl 5 rfl) ?_
        refine lv_iload_n hx hb dX4_addFrom_23 rfl (lv_at hl 2 rfl) ?_
        refine lv_icmp_lt (tgt := 30) hx hb dX4_addFrom_24 (by decide) (fun hcd => ?_) (fun hcd => ?_)
        · have h := cdP hcd h
          refine lv_aload_n hx hb dX4_addFrom_30 rfl (lv_at hl 1 rfl) ?_
          refine lv_iload hx hb dX4_addFrom_31 (lv_at hl 5 rfl) ?_
          refine ux_lald hx hb hK hP c1 4 hc1 (hs1 _ _) rfl h dX4_addFrom_33 (fun v12 h => ?_)
          refine lv_lstore (lv' := [(8, .long v12), (0, .ref (ad 3)), (1, .ref (ad c1)), (2, .int x2), (4, .int x4), (5, .int x5), (6, .int x6), (7, .int x7)]) hx hb dX4_addFrom_34 hl (by decide) rfl (fun ls hl => ?_)
          have hl := lv_sub hl [1, 2, 3, 4, 5, 6, 7, 0] (l' := [(0, .ref (ad 3)), (1, .ref (ad c1)), (2, .int x2), (4, .int x4), (5, .int x5), (6, .int x6), (7, .int x7), (8, .long v12)]) rfl
          refine lv_lload hx hb dX4_addFrom_36 (lv_at hl 7 rfl) ?_
          refine lv_lconst (v := 1) hx hb dX4_addFrom_38 (by decide) ?_
          refine W.lcmp hx hb dX4_addFrom_39 ?_
          refine lv_if_lt (tgt := 63) hx hb dX4_addFrom_40 (by decide) (fun hcd => ?_) (fun hcd => ?_)
          · have h := cdP hcd h
            refine lv_iload hx hb dX4_addFrom_63 (lv_at hl 4 rfl) ?_
            exact ux_iret hx hb hr h hP hD hS hlocks dX4_addFrom_65
          · have h := cdN hcd h
            refine lv_lload hx hb dX4_addFrom_43 (lv_at hl 7 rfl) ?_
            refine lv_ldc2 hx hb hown (hts (.constantLong RX4 39 (6)) (List.mem_of_getElem? (i := 1) rfl)) dX4_addFrom_45 ?_
            refine W.lcmp hx hb dX4_addFrom_48 ?_
            refine lv_if_gt (tgt := 63) hx hb dX4_addFrom_49 (by decide) (fun hcd => ?_) (fun hcd => ?_)
            · have h := cdP hcd h
              refine lv_iload hx hb dX4_addFrom_63 (lv_at hl 4 rfl) ?_
              exact ux_iret hx hb hr h hP hD hS hlocks dX4_addFrom_65
            · have h := cdN hcd h
              refine lv_lload hx hb dX4_addFrom_52 (lv_at hl 7 rfl) ?_
              refine lv_iload_n hx hb dX4_addFrom_54 rfl (lv_at hl 2 rfl) ?_
              refine lv_iload hx hb dX4_addFrom_55 (lv_at hl 5 rfl) ?_
              refine lv_isub hx hb dX4_addFrom_57 ?_
              refine lv_i2l hx hb dX4_addFrom_58 rfl ?_
              refine W.lcmp hx hb dX4_addFrom_59 ?_
              refine lv_if_lt (tgt := 66) hx hb dX4_addFrom_60 (by decide) (fun hcd => ?_) (fun hcd => ?_)
              · have h := cdP hcd h
                refine lv_lload hx hb dX4_addFrom_66 (lv_at hl 7 rfl) ?_
                refine lv_l2i hx hb dX4_addFrom_68 rfl ?_
                refine lv_topi (fun v13 ev13 => ?_)
                have h := nmS h ev13
                refine lv_istore (lv' := [(10, .int v13), (0, .ref (ad 3)), (1, .ref (ad c1)), (2, .int x2), (4, .int x4), (5, .int x5), (6, .int x6), (7, .int x7), (8, .long v12)]) hx hb dX4_addFrom_69 hl (by decide) rfl (fun ls hl => ?_)
                have hl := lv_sub hl [1, 2, 3, 4, 5, 6, 7, 8, 0] (l' := [(0, .ref (ad 3)), (1, .ref (ad c1)), (2, .int x2), (4, .int x4), (5, .int x5), (6, .int x6), (7, .int x7), (8, .long v12), (10, .int v13)]) rfl
                refine lv_iconst (v := 0) hx hb dX4_addFrom_71 (by decide) ?_
                refine lv_istore (lv' := [(11, .int 0), (0, .ref (ad 3)), (1, .ref (ad c1)), (2, .int x2), (4, .int x4), (5, .int x5), (6, .int x6), (7, .int x7), (8, .long v12), (10, .int v13)]) hx hb dX4_addFrom_72 hl (by decide) rfl (fun ls hl => ?_)
                have hl := lv_sub hl [1, 2, 3, 4, 5, 6, 7, 8, 9, 0] (l' := [(0, .ref (ad 3)), (1, .ref (ad c1)), (2, .int x2), (4, .int x4), (5, .int x5), (6, .int x6), (7, .int x7), (8, .long v12), (10, .int v13), (11, .int 0)]) rfl
                exact w74 _ ih FU σ x2 x4 x5 x6 x7 v13 0 H locs ls h hP hD hS (lv_sub hl [0, 1, 2, 3, 4, 5, 6, 8, 9] rfl)
              · have h := cdN hcd h
                refine lv_iload hx hb dX4_addFrom_63 (lv_at hl 4 rfl) ?_
                exact ux_iret hx hb hr h hP hD hS hlocks dX4_addFrom_65
        · have h := cdN hcd h
          refine lv_iload hx hb dX4_addFrom_27 (lv_at hl 4 rfl) ?_
          exact ux_iret hx hb hr h hP hD hS hlocks dX4_addFrom_29
  have w0 : ∀ (σ : S2) (x2 : Int32) (x3 : Int32) (x4 : Int32) (H : Heap) (locs : List Loc) (ls : Array Slot), fX4_addFrom_0 τ c1 n1 σ x2 x3 x4 = some (r0, σ9) → va_P (dC, dI) vwCl (wG (cC cy ad τ) ad (182 + 6 * nb) σ) H → va_D A (wG (cC cy ad τ) ad (182 + 6 * nb) σ) → va_S A s.heap H locs → lv_has ls 12 [(0, .ref (ad 3)), (1, .ref (ad c1)), (2, .int x2), (3, .int x3), (4, .int x4)] → W p l e (headSpec wsX4_addFrom ({ frames := 3, cells := 0, slots := 0, locals := 83 })).room s m (#[.ref (ad 3), .ref (ad c1), .int a2, .int a3, .int a4]) below meth c H locs 0 0 (MQ below (va_Qi (fun (r : Int32) (_ : Unit) => r = r0) (fun (_ : Unit) t => wAt (dC, dI) A (wG (cC cy ad τ) ad (182 + 6 * nb) σ9) t) A) (#[.ref (ad 3), .ref (ad c1), .int a2, .int a3, .int a4]) s 0 0 A) (F0 m 0 ls []) := by
    intro σ x2 x3 x4 H locs ls h hP hD hS hl
    unfold fX4_addFrom_0 at h
    refine lv_iconst (v := 0) hx hb dX4_addFrom_0 (by decide) ?_
    refine lv_istore (lv' := [(5, .int 0), (0, .ref (ad 3)), (1, .ref (ad c1)), (2, .int x2), (3, .int x3), (4, .int x4)]) hx hb dX4_addFrom_1 hl (by decide) rfl (fun ls hl => ?_)
    have hl := lv_sub hl [1, 2, 3, 4, 5, 0] (l' := [(0, .ref (ad 3)), (1, .ref (ad c1)), (2, .int x2), (3, .int x3), (4, .int x4), (5, .int 0)]) rfl
    refine lv_iload_n hx hb dX4_addFrom_3 rfl (lv_at hl 3 rfl) ?_
    refine lv_istore (lv' := [(6, .int x3), (0, .ref (ad 3)), (1, .ref (ad c1)), (2, .int x2), (3, .int x3), (4, .int x4), (5, .int 0)]) hx hb dX4_addFrom_4 hl (by decide) rfl (fun ls hl => ?_)
    have hl := lv_sub hl [1, 2, 3, 4, 5, 6, 0] (l' := [(0, .ref (ad 3)), (1, .ref (ad c1)), (2, .int x2), (3, .int x3), (4, .int x4), (5, .int 0), (6, .int x3)]) rfl
    refine lv_iconst (v := 0) hx hb dX4_addFrom_6 (by decide) ?_
    refine lv_istore (lv' := [(7, .int 0), (0, .ref (ad 3)), (1, .ref (ad c1)), (2, .int x2), (3, .int x3), (4, .int x4), (5, .int 0), (6, .int x3)]) hx hb dX4_addFrom_7 hl (by decide) rfl (fun ls hl => ?_)
    have hl := lv_sub hl [1, 2, 3, 4, 5, 6, 7, 0] (l' := [(0, .ref (ad 3)), (1, .ref (ad c1)), (2, .int x2), (3, .int x3), (4, .int x4), (5, .int 0), (6, .int x3), (7, .int 0)]) rfl
    exact w9 FU σ x2 x4 0 x3 0 H locs ls h hP hD hS (lv_sub hl [0, 1, 2, 4, 5, 6, 7] rfl)
  intro H locs ls h hP hD hS hl
  exact w0 σ a2 a3 a4 H locs ls h hP hD hS (lv_sub hl [0, 1, 2, 3, 4] rfl)

set_option maxHeartbeats 4000000 in
set_option maxRecDepth 100000 in
theorem tX5_isTold (l : Launch) (dC : Nat → ClassId) (dI : Nat → Nat → Nat) (cy : Nat → ClassId) (ad : Nat → Nat) (τ nb : Nat) (hτ : τ < nb) (σ : S2) (a1 : Int32) (sz : Nat) (r0 : Int32) (h : fX5_isTold τ σ a1 = some r0) : Met l yX5_isTold wsX5_isTold ({ frames := 1, cells := 0, slots := 0, locals := 23 }) (va_Pc [.ref (ad 27), .int a1] (wPre (dC, dI) cy (wG (cC cy ad τ) ad (182 + 6 * nb) σ) sz)) (va_Qi (fun (r : Int32) (_ : Unit) => r = r0) (fun (_ : Unit) t => wAt (dC, dI) (va_A (wG (cC cy ad τ) ad (182 + 6 * nb) σ) sz) (wG (cC cy ad τ) ad (182 + 6 * nb) σ) t) (va_A (wG (cC cy ad τ) ad (182 + 6 * nb) σ) sz)) 0 0 (va_A (wG (cC cy ad τ) ad (182 + 6 * nb) σ) sz) := by
  refine Met.ofW (cc := cX5_isTold) (maxL := 3) (ret := (some .boolean)) (by decide) rfl ?_
  intro p e s m args below meth c s₁ B hml hv
  obtain ⟨rfl, hsz, hP, hK, hD0, hN⟩ := hv
  have hx := B.exec
  have hb := B.bytes
  have hr := B.returns
  have hts := atoms_spec (ws := wsX5_isTold) B.pre
  have hown : s.vm.findClass RX5 = some m.cls := findClass_of_methodNamed B.named
  have hlocks := B.notSynchronized
  subst hsz
  have hD := hD0.self (sz := s.heap.size)
  generalize hAe : va_A (wG (cC cy ad τ) ad (182 + 6 * nb) σ) s.heap.size = A at hD ⊢
  have hA : ∀ q : Nat, s.heap.size ≤ q → A q := fun q h => by rw [← hAe]; exact Or.inr h
  have hS : va_S A s.heap s.heap [] := va_S.rf
  have hl := lv_entry ([.ref (ad 27), .int a1]) (n := 3) (Nat.le_of_ble_eq_true rfl)
  rw [lg_entry_eq]
  generalize (lg_sl ([.ref (ad 27), .int a1]) ++ List.replicate (3 - (lg_sl ([.ref (ad 27), .int a1])).length) Slot.unset).toArray = ls at hl ⊢
  have hl : lv_has ls 3 [(0, .ref (ad 27)), (1, .int a1)] := hl
  unfold fX5_isTold at h
  clear hAe hD0
  suffices HH : ∀ (H : Heap) (locs : List Loc) (ls : Array Slot), fX5_isTold_0 τ σ a1 = some r0 → va_P (dC, dI) vwCl (wG (cC cy ad τ) ad (182 + 6 * nb) σ) H → va_D A (wG (cC cy ad τ) ad (182 + 6 * nb) σ) → va_S A s.heap H locs → lv_has ls 3 [(0, .ref (ad 27)), (1, .int a1)] → W p l e (headSpec wsX5_isTold ({ frames := 1, cells := 0, slots := 0, locals := 23 })).room s m (#[.ref (ad 27), .int a1]) below meth c H locs 0 0 (MQ below (va_Qi (fun (r : Int32) (_ : Unit) => r = r0) (fun (_ : Unit) t => wAt (dC, dI) A (wG (cC cy ad τ) ad (182 + 6 * nb) σ) t) A) (#[.ref (ad 27), .int a1]) s 0 0 A) (F0 m 0 ls []) from HH s.heap [] ls h hP hD hS hl
  have w2 : ∀ (n : Nat), ∀ (σ : S2) (x1 : Int32) (x2 : Int32) (H : Heap) (locs : List Loc) (ls : Array Slot), fX5_isTold_2 τ n σ x1 x2 = some r0 → va_P (dC, dI) vwCl (wG (cC cy ad τ) ad (182 + 6 * nb) σ) H → va_D A (wG (cC cy ad τ) ad (182 + 6 * nb) σ) → va_S A s.heap H locs → lv_has ls 3 [(0, .ref (ad 27)), (1, .int x1), (2, .int x2)] → W p l e (headSpec wsX5_isTold ({ frames := 1, cells := 0, slots := 0, locals := 23 })).room s m (#[.ref (ad 27), .int a1]) below meth c H locs 0 0 (MQ below (va_Qi (fun (r : Int32) (_ : Unit) => r = r0) (fun (_ : Unit) t => wAt (dC, dI) A (wG (cC cy ad τ) ad (182 + 6 * nb) σ) t) A) (#[.ref (ad 27), .int a1]) s 0 0 A) (F0 m 2 ls []) := by
    intro n
    induction n with
    | zero => intro σ x1 x2 H locs ls h; cases h
    | succ n ih =>
    intro σ x1 x2 H locs ls h hP hD hS hl
    unfold fX5_isTold_2 at h
    refine lv_iload_n hx hb dX5_isTold_2 rfl (lv_at hl 2 rfl) ?_
    refine lv_aload_n hx hb dX5_isTold_3 rfl (lv_at hl 0 rfl) ?_
    refine ux_get (D := (dC, dI)) (ci := 5) (v := .int (σ.1 27 1)) (C := RX5) (T := TX5) (M := 10) (fs := (oOR ad (σ.1 27))) hx hb hts (fun _ h9 => List.mem_cons_of_mem _ (List.mem_append_right _ h9)) hown hK hP 27 (Nat.lt_of_lt_of_le (Nat.le_of_ble_eq_true rfl : 27 < 182) (Nat.le_add_right _ _)) (cC_27 _ _ _ _ _) rfl 1 (by decide) (hts (.fieldLink RX5 15 "SeatsRound$Orders" "toldCount" "I") (List.mem_of_getElem? (i := 1) rfl)) (fun _ h9 => h9) rfl dX5_isTold_4 ?_
    refine lv_icmp_ge (tgt := 28) hx hb dX5_isTold_7 (by decide) (fun hcd => ?_) (fun hcd => ?_)
    · have h := cdP hcd h
      refine lv_iconst (v := 0) hx hb dX5_isTold_28 (by decide) ?_
      exact ux_zretP hx hb hr rfl h hP hD hS hlocks dX5_isTold_29
    · have h := cdN hcd h
      refine lv_aload_n hx hb dX5_isTold_10 rfl (lv_at hl 0 rfl) ?_
      refine ux_get (D := (dC, dI)) (ci := 5) (v := .ref (ad 28)) (C := RX5) (T := TX5) (M := 10) (fs := (oOR ad (σ.1 27))) hx hb hts (fun _ h9 => List.mem_cons_of_mem _ (List.mem_append_right _ h9)) hown hK hP 27 (Nat.lt_of_lt_of_le (Nat.le_of_ble_eq_true rfl : 27 < 182) (Nat.le_add_right _ _)) (cC_27 _ _ _ _ _) rfl 0 (by decide) (hts (.fieldLink RX5 9 "SeatsRound$Orders" "told" "[I") (List.mem_of_getElem? (i := 2) rfl)) (fun _ h9 => h9) rfl dX5_isTold_11 ?_
      refine lv_iload_n hx hb dX5_isTold_14 rfl (lv_at hl 2 rfl) ?_
      refine ux_iald hx hb hK hP 28 0 (Nat.lt_of_lt_of_le (Nat.le_of_ble_eq_true rfl : 28 < 182) (Nat.le_add_right _ _)) (cC_28 _ _ _ _ _) rfl h dX5_isTold_15 (fun v1 h => ?_)
      refine lv_iload_n hx hb dX5_isTold_16 rfl (lv_at hl 1 rfl) ?_
      refine lv_icmp_ne (tgt := 22) hx hb dX5_isTold_17 (by decide) (fun hcd => ?_) (fun hcd => ?_)
      · have h := cdN hcd h
        obtain ⟨v2, ev2⟩ : ∃ y : Int32, y = x2 + 1 := ⟨_, rfl⟩
        have h := nmS h ev2
        refine lv_iinc (v := v2) (lv' := [(2, .int v2), (0, .ref (ad 27)), (1, .int x1)]) hx hb dX5_isTold_22 hl (k := 2) rfl (by rw [ev2]; rfl) (by decide) rfl (fun ls hl => ?_)
        have hl := lv_sub hl [1, 2, 0] (l' := [(0, .ref (ad 27)), (1, .int x1), (2, .int v2)]) rfl
        refine lv_goto (tgt := 2) hx hb dX5_isTold_25 (by decide) ?_
        exact ih σ x1 v2 H locs ls h hP hD hS hl
      · have h := cdP hcd h
        refine lv_iconst (v := 1) hx hb dX5_isTold_20 (by decide) ?_
        exact ux_zretP hx hb hr rfl h hP hD hS hlocks dX5_isTold_21
  have w0 : ∀ (σ : S2) (x1 : Int32) (H : Heap) (locs : List Loc) (ls : Array Slot), fX5_isTold_0 τ σ x1 = some r0 → va_P (dC, dI) vwCl (wG (cC cy ad τ) ad (182 + 6 * nb) σ) H → va_D A (wG (cC cy ad τ) ad (182 + 6 * nb) σ) → va_S A s.heap H locs → lv_has ls 3 [(0, .ref (ad 27)), (1, .int x1)] → W p l e (headSpec wsX5_isTold ({ frames := 1, cells := 0, slots := 0, locals := 23 })).room s m (#[.ref (ad 27), .int a1]) below meth c H locs 0 0 (MQ below (va_Qi (fun (r : Int32) (_ : Unit) => r = r0) (fun (_ : Unit) t => wAt (dC, dI) A (wG (cC cy ad τ) ad (182 + 6 * nb) σ) t) A) (#[.ref (ad 27), .int a1]) s 0 0 A) (F0 m 0 ls []) := by
    intro σ x1 H locs ls h hP hD hS hl
    unfold fX5_isTold_0 at h
    refine lv_iconst (v := 0) hx hb dX5_isTold_0 (by decide) ?_
    refine lv_istore_n (lv' := [(2, .int 0), (0, .ref (ad 27)), (1, .int x1)]) hx hb dX5_isTold_1 rfl hl (by decide) rfl (fun ls hl => ?_)
    have hl := lv_sub hl [1, 2, 0] (l' := [(0, .ref (ad 27)), (1, .int x1), (2, .int 0)]) rfl
    exact w2 FU σ x1 0 H locs ls h hP hD hS hl
  intro H locs ls h hP hD hS hl
  exact w0 σ a1 H locs ls h hP hD hS (lv_sub hl [0, 1] rfl)

set_option maxHeartbeats 4000000 in
set_option maxRecDepth 100000 in
theorem tX8_takeLaw (l : Launch) (dC : Nat → ClassId) (dI : Nat → Nat → Nat) (cy : Nat → ClassId) (ad : Nat → Nat) (τ nb : Nat) (hτ : τ < nb) (b0 : Nat) (hb0 : b0 < nb) (c1 n1 : Nat) (hc1 : c1 < 182 + 6 * nb) (hs1 : ∀ (g : Nat → Int32) (q : Nat → Int64), cC cy ad τ c1 g q = .inl (cy 1, n1, .inl g)) (σ : S2) (a2 : Int32) (sz : Nat) (r0 : Unit) (σ9 : S2) (h : fX8_takeLaw τ b0 c1 n1 σ a2 = some (r0, σ9)) : Met l yX8_takeLaw wsX8_takeLaw ({ frames := 2, cells := 0, slots := 0, locals := 60 }) (va_Pc [.ref (ad (182 + 6 * b0)), .ref (ad c1), .int a2] (wPre (dC, dI) cy (wG (cC cy ad τ) ad (182 + 6 * nb) σ) sz)) (va_Qv (fun (_ : Unit) => True) (fun (_ : Unit) t => wAt (dC, dI) (va_A (wG (cC cy ad τ) ad (182 + 6 * nb) σ) sz) (wG (cC cy ad τ) ad (182 + 6 * nb) σ9) t) (va_A (wG (cC cy ad τ) ad (182 + 6 * nb) σ) sz)) 0 0 (va_A (wG (cC cy ad τ) ad (182 + 6 * nb) σ) sz) := by
  refine Met.ofW (cc := cX8_takeLaw) (maxL := 3) (ret := none) (by decide) rfl ?_
  intro p e s m args below meth c s₁ B hml hv
  obtain ⟨rfl, hsz, hP, hK, hD0, hN⟩ := hv
  have hx := B.exec
  have hb := B.bytes
  have hr := B.returns
  have hts := atoms_spec (ws := wsX8_takeLaw) B.pre
  have hown : s.vm.findClass RX8 = some m.cls := findClass_of_methodNamed B.named
  have hlocks := B.notSynchronized
  subst hsz
  have hD := hD0.self (sz := s.heap.size)
  generalize hAe : va_A (wG (cC cy ad τ) ad (182 + 6 * nb) σ) s.heap.size = A at hD ⊢
  have hA : ∀ q : Nat, s.heap.size ≤ q → A q := fun q h => by rw [← hAe]; exact Or.inr h
  have hS : va_S A s.heap s.heap [] := va_S.rf
  have hl := lv_entry ([.ref (ad (182 + 6 * b0)), .ref (ad c1), .int a2]) (n := 3) (Nat.le_of_ble_eq_true rfl)
  rw [lg_entry_eq]
  generalize (lg_sl ([.ref (ad (182 + 6 * b0)), .ref (ad c1), .int a2]) ++ List.replicate (3 - (lg_sl ([.ref (ad (182 + 6 * b0)), .ref (ad c1), .int a2])).length) Slot.unset).toArray = ls at hl ⊢
  have hl : lv_has ls 3 [(0, .ref (ad (182 + 6 * b0))), (1, .ref (ad c1)), (2, .int a2)] := hl
  unfold fX8_takeLaw at h
  clear hAe hD0
  suffices HH : ∀ (H : Heap) (locs : List Loc) (ls : Array Slot), fX8_takeLaw_0 τ b0 c1 n1 σ a2 = some (r0, σ9) → va_P (dC, dI) vwCl (wG (cC cy ad τ) ad (182 + 6 * nb) σ) H → va_D A (wG (cC cy ad τ) ad (182 + 6 * nb) σ) → va_S A s.heap H locs → lv_has ls 3 [(0, .ref (ad (182 + 6 * b0))), (1, .ref (ad c1)), (2, .int a2)] → W p l e (headSpec wsX8_takeLaw ({ frames := 2, cells := 0, slots := 0, locals := 60 })).room s m (#[.ref (ad (182 + 6 * b0)), .ref (ad c1), .int a2]) below meth c H locs 0 0 (MQ below (va_Qv (fun (_ : Unit) => True) (fun (_ : Unit) t => wAt (dC, dI) A (wG (cC cy ad τ) ad (182 + 6 * nb) σ9) t) A) (#[.ref (ad (182 + 6 * b0)), .ref (ad c1), .int a2]) s 0 0 A) (F0 m 0 ls []) from HH s.heap [] ls h hP hD hS hl
  have w0 : ∀ (σ : S2) (x2 : Int32) (H : Heap) (locs : List Loc) (ls : Array Slot), fX8_takeLaw_0 τ b0 c1 n1 σ x2 = some (r0, σ9) → va_P (dC, dI) vwCl (wG (cC cy ad τ) ad (182 + 6 * nb) σ) H → va_D A (wG (cC cy ad τ) ad (182 + 6 * nb) σ) → va_S A s.heap H locs → lv_has ls 3 [(0, .ref (ad (182 + 6 * b0))), (1, .ref (ad c1)), (2, .int x2)] → W p l e (headSpec wsX8_takeLaw ({ frames := 2, cells := 0, slots := 0, locals := 60 })).room s m (#[.ref (ad (182 + 6 * b0)), .ref (ad c1), .int a2]) below meth c H locs 0 0 (MQ below (va_Qv (fun (_ : Unit) => True) (fun (_ : Unit) t => wAt (dC, dI) A (wG (cC cy ad τ) ad (182 + 6 * nb) σ9) t) A) (#[.ref (ad (182 + 6 * b0)), .ref (ad c1), .int a2]) s 0 0 A) (F0 m 0 ls []) := by
    intro σ x2 H locs ls h hP hD hS hl
    unfold fX8_takeLaw_0 at h
    refine lv_aload_n hx hb dX8_takeLaw_0 rfl (lv_at hl 0 rfl) ?_
    refine lv_iconst (v := 0) hx hb dX8_takeLaw_1 (by decide) ?_
    refine lv_iload_n hx hb dX8_takeLaw_2 rfl (lv_at hl 2 rfl) ?_
    refine lv_aload_n hx hb dX8_takeLaw_3 rfl (lv_at hl 1 rfl) ?_
    refine ux_alen (v := Int32.ofNat n1) hx hb hK hP c1 1 hc1 (hs1 _ _) rfl rfl dX8_takeLaw_4 ?_
    refine va_mmin hx hb (hml.trans hl.1.symm) hown (hts (.methodLink RX8 61 Lib.Math.min.name) (List.mem_of_getElem? (i := 1) rfl)) (hts (.static Lib.Math.min.name) (List.mem_of_getElem? (i := 2) rfl)) (hts (.initialized "java/lang/Math") (List.mem_of_getElem? (i := 3) rfl)) (hts (.code Lib.Math.min.name Lib.Math.min.code 2 (some .int)) (List.mem_of_getElem? (i := 4) rfl)) (Nat.le_of_ble_eq_true rfl) (Nat.le_of_ble_eq_true rfl) (Nat.le_of_ble_eq_true rfl) (Nat.le_of_ble_eq_true rfl) dX8_takeLaw_5 ?_
    refine lv_bipush (v := 80) hx hb dX8_takeLaw_8 (by decide) ?_
    refine va_mmin hx hb (hml.trans hl.1.symm) hown (hts (.methodLink RX8 61 Lib.Math.min.name) (List.mem_of_getElem? (i := 1) rfl)) (hts (.static Lib.Math.min.name) (List.mem_of_getElem? (i := 2) rfl)) (hts (.initialized "java/lang/Math") (List.mem_of_getElem? (i := 3) rfl)) (hts (.code Lib.Math.min.name Lib.Math.min.code 2 (some .int)) (List.mem_of_getElem? (i := 4) rfl)) (Nat.le_of_ble_eq_true rfl) (Nat.le_of_ble_eq_true rfl) (Nat.le_of_ble_eq_true rfl) (Nat.le_of_ble_eq_true rfl) dX8_takeLaw_10 ?_
    change W _ _ _ _ _ _ _ _ _ _ _ _ _ _ _ (F0 m 13 ls [.int (if 80 < (if (Int32.ofNat n1) < x2 then (Int32.ofNat n1) else x2) then 80 else (if (Int32.ofNat n1) < x2 then (Int32.ofNat n1) else x2)), .int 0, .ref (ad (182 + 6 * b0))])
    refine va_mmax hx hb (hml.trans hl.1.symm) hown (hts (.methodLink RX8 67 Lib.Math.max.name) (List.mem_of_getElem? (i := 5) rfl)) (hts (.static Lib.Math.max.name) (List.mem_of_getElem? (i := 6) rfl)) (hts (.initialized "java/lang/Math") (List.mem_of_getElem? (i := 3) rfl)) (hts (.code Lib.Math.max.name Lib.Math.max.code 2 (some .int)) (List.mem_of_getElem? (i := 7) rfl)) (Nat.le_of_ble_eq_true rfl) (Nat.le_of_ble_eq_true rfl) (Nat.le_of_ble_eq_true rfl) (Nat.le_of_ble_eq_true rfl) dX8_takeLaw_13 ?_
    refine ux_put (D := (dC, dI)) (ci := 8) (C := RX8) (T := TX8) (M := 13) (fs := (oTB ad (182 + 6 * b0) (σ.1 (182 + 6 * b0)))) hx hb hts (fun _ h9 => List.mem_cons_of_mem _ (List.mem_append_right _ h9)) tyX8 tyX8_ok nmX8 hown hK hP hD hS (182 + 6 * b0) (by omega) (cC_t0 _ _ _ _ _ b0) rfl 6 (by decide) (hts (.fieldLink RX8 30 "SeatsRound$Table" "lawLength" "I") (List.mem_of_getElem? (i := 8) rfl)) (fun _ h9 => h9) rfl (tyX8_ok 6 (by decide)) rfl rfl (Nat.le_of_ble_eq_true rfl) (oC_t_6 _ _ _ _ _ _ b0) h dX8_takeLaw_16 (fun σ1 H locs h hP hD hS => ?_)
    refine lv_aload_n hx hb dX8_takeLaw_19 rfl (lv_at hl 1 rfl) ?_
    refine lv_iconst (v := 0) hx hb dX8_takeLaw_20 (by decide) ?_
    refine lv_aload_n hx hb dX8_takeLaw_21 rfl (lv_at hl 0 rfl) ?_
    refine ux_get (D := (dC, dI)) (ci := 8) (v := .ref (ad (182 + 6 * b0 + 3))) (C := RX8) (T := TX8) (M := 13) (fs := (oTB ad (182 + 6 * b0) (σ1.1 (182 + 6 * b0)))) hx hb hts (fun _ h9 => List.mem_cons_of_mem _ (List.mem_append_right _ h9)) hown hK hP (182 + 6 * b0) (by omega) (cC_t0 _ _ _ _ _ b0) rfl 10 (by decide) (hts (.fieldLink RX8 44 "SeatsRound$Table" "law" "[B") (List.mem_of_getElem? (i := 9) rfl)) (fun _ h9 => h9) rfl dX8_takeLaw_22 ?_
    refine lv_iconst (v := 0) hx hb dX8_takeLaw_25 (by decide) ?_
    refine lv_aload_n hx hb dX8_takeLaw_26 rfl (lv_at hl 0 rfl) ?_
    refine ux_get (D := (dC, dI)) (ci := 8) (v := .int (σ1.1 (182 + 6 * b0) 6)) (C := RX8) (T := TX8) (M := 13) (fs := (oTB ad (182 + 6 * b0) (σ1.1 (182 + 6 * b0)))) hx hb hts (fun _ h9 => List.mem_cons_of_mem _ (List.mem_append_right _ h9)) hown hK hP (182 + 6 * b0) (by omega) (cC_t0 _ _ _ _ _ b0) rfl 6 (by decide) (hts (.fieldLink RX8 30 "SeatsRound$Table" "lawLength" "I") (List.mem_of_getElem? (i := 8) rfl)) (fun _ h9 => h9) rfl dX8_takeLaw_27 ?_
    refine ux_copyi hx hb (hml.trans hl.1.symm) hown (hts (.methodLink RX8 70 arraycopyName) (List.mem_of_getElem? (i := 10) rfl)) (hts (.native arraycopyName) (List.mem_of_getElem? (i := 11) rfl)) (hts (.static arraycopyName) (List.mem_of_getElem? (i := 12) rfl)) (hts (.initialized "java/lang/System") (List.mem_of_getElem? (i := 13) rfl)) hK hP hD hS c1 (182 + 6 * b0 + 3) 1 hc1 (by omega) (hs1 _ _) (fun _ => (cC_t3 _ _ _ _ _ b0)) rfl rfl h (Nat.le_of_ble_eq_true rfl) (Nat.le_of_ble_eq_true rfl) dX8_takeLaw_30 (fun σ2 H locs h hP hD hS => ?_)
    change W _ _ _ _ _ _ _ _ _ _ _ _ _ _ _ (F0 m 33 ls [])
    exact ux_vret hx hb hr h hP hD hS hlocks dX8_takeLaw_33
  intro H locs ls h hP hD hS hl
  exact w0 σ a2 H locs ls h hP hD hS (lv_sub hl [0, 1, 2] rfl)

set_option maxHeartbeats 4000000 in
set_option maxRecDepth 100000 in
theorem tX8_takeAll (l : Launch) (dC : Nat → ClassId) (dI : Nat → Nat → Nat) (cy : Nat → ClassId) (ad : Nat → Nat) (τ nb : Nat) (hτ : τ < nb) (b0 : Nat) (hb0 : b0 < nb) (b1 : Nat) (hb1 : b1 < nb) (σ : S2)  (sz : Nat) (r0 : Unit) (σ9 : S2) (h : fX8_takeAll τ b0 b1 σ = some (r0, σ9)) : Met l yX8_takeAll wsX8_takeAll ({ frames := 3, cells := 0, slots := 0, locals := 82 }) (va_Pc [.ref (ad (182 + 6 * b0)), .ref (ad (182 + 6 * b1))] (wPre (dC, dI) cy (wG (cC cy ad τ) ad (182 + 6 * nb) σ) sz)) (va_Qv (fun (_ : Unit) => True) (fun (_ : Unit) t => wAt (dC, dI) (va_A (wG (cC cy ad τ) ad (182 + 6 * nb) σ) sz) (wG (cC cy ad τ) ad (182 + 6 * nb) σ9) t) (va_A (wG (cC cy ad τ) ad (182 + 6 * nb) σ) sz)) 0 0 (va_A (wG (cC cy ad τ) ad (182 + 6 * nb) σ) sz) := by
  refine Met.ofW (cc := cX8_takeAll) (maxL := 2) (ret := none) (by decide) rfl ?_
  intro p e s m args below meth c s₁ B hml hv
  obtain ⟨rfl, hsz, hP, hK, hD0, hN⟩ := hv
  have hx := B.exec
  have hb := B.bytes
  have hr := B.returns
  have hts := atoms_spec (ws := wsX8_takeAll) B.pre
  have hown : s.vm.findClass RX8 = some m.cls := findClass_of_methodNamed B.named
  have hlocks := B.notSynchronized
  subst hsz
  have hD := hD0.self (sz := s.heap.size)
  generalize hAe : va_A (wG (cC cy ad τ) ad (182 + 6 * nb) σ) s.heap.size = A at hD ⊢
  have hA : ∀ q : Nat, s.heap.size ≤ q → A q := fun q h => by rw [← hAe]; exact Or.inr h
  have hS : va_S A s.heap s.heap [] := va_S.rf
  have hl := lv_entry ([.ref (ad (182 + 6 * b0)), .ref (ad (182 + 6 * b1))]) (n := 2) (Nat.le_of_ble_eq_true rfl)
  rw [lg_entry_eq]
  generalize (lg_sl ([.ref (ad (182 + 6 * b0)), .ref (ad (182 + 6 * b1))]) ++ List.replicate (2 - (lg_sl ([.ref (ad (182 + 6 * b0)), .ref (ad (182 + 6 * b1))])).length) Slot.unset).toArray = ls at hl ⊢
  have hl : lv_has ls 2 [(0, .ref (ad (182 + 6 * b0))), (1, .ref (ad (182 + 6 * b1)))] := hl
  unfold fX8_takeAll at h
  clear hAe hD0
  suffices HH : ∀ (H : Heap) (locs : List Loc) (ls : Array Slot), fX8_takeAll_0 τ b0 b1 σ = some (r0, σ9) → va_P (dC, dI) vwCl (wG (cC cy ad τ) ad (182 + 6 * nb) σ) H → va_D A (wG (cC cy ad τ) ad (182 + 6 * nb) σ) → va_S A s.heap H locs → lv_has ls 2 [(0, .ref (ad (182 + 6 * b0))), (1, .ref (ad (182 + 6 * b1)))] → W p l e (headSpec wsX8_takeAll ({ frames := 3, cells := 0, slots := 0, locals := 82 })).room s m (#[.ref (ad (182 + 6 * b0)), .ref (ad (182 + 6 * b1))]) below meth c H locs 0 0 (MQ below (va_Qv (fun (_ : Unit) => True) (fun (_ : Unit) t => wAt (dC, dI) A (wG (cC cy ad τ) ad (182 + 6 * nb) σ9) t) A) (#[.ref (ad (182 + 6 * b0)), .ref (ad (182 + 6 * b1))]) s 0 0 A) (F0 m 0 ls []) from HH s.heap [] ls h hP hD hS hl
  have w0 : ∀ (σ : S2)  (H : Heap) (locs : List Loc) (ls : Array Slot), fX8_takeAll_0 τ b0 b1 σ = some (r0, σ9) → va_P (dC, dI) vwCl (wG (cC cy ad τ) ad (182 + 6 * nb) σ) H → va_D A (wG (cC cy ad τ) ad (182 + 6 * nb) σ) → va_S A s.heap H locs → lv_has ls 2 [(0, .ref (ad (182 + 6 * b0))), (1, .ref (ad (182 + 6 * b1)))] → W p l e (headSpec wsX8_takeAll ({ frames := 3, cells := 0, slots := 0, locals := 82 })).room s m (#[.ref (ad (182 + 6 * b0)), .ref (ad (182 + 6 * b1))]) below meth c H locs 0 0 (MQ below (va_Qv (fun (_ : Unit) => True) (fun (_ : Unit) t => wAt (dC, dI) A (wG (cC cy ad τ) ad (182 + 6 * nb) σ9) t) A) (#[.ref (ad (182 + 6 * b0)), .ref (ad (182 + 6 * b1))]) s 0 0 A) (F0 m 0 ls []) := by
    intro σ H locs ls h hP hD hS hl
    unfold fX8_takeAll_0 at h
    refine lv_aload_n hx hb dX8_takeAll_0 rfl (lv_at hl 0 rfl) ?_
    refine lv_aload_n hx hb dX8_takeAll_1 rfl (lv_at hl 1 rfl) ?_
    refine ux_get (D := (dC, dI)) (ci := 8) (v := .int (σ.1 (182 + 6 * b1) 0)) (C := RX8) (T := TX8) (M := 13) (fs := (oTB ad (182 + 6 * b1) (σ.1 (182 + 6 * b1)))) hx hb hts (fun _ h9 => List.mem_cons_of_mem _ (List.mem_append_right _ h9)) hown hK hP (182 + 6 * b1) (by omega) (cC_t0 _ _ _ _ _ b1) rfl 0 (by decide) (hts (.fieldLink RX8 9 "SeatsRound$Table" "members" "I") (List.mem_of_getElem? (i := 1) rfl)) (fun _ h9 => h9) rfl dX8_takeAll_2 ?_
    refine ux_put (D := (dC, dI)) (ci := 8) (C := RX8) (T := TX8) (M := 13) (fs := (oTB ad (182 + 6 * b0) (σ.1 (182 + 6 * b0)))) hx hb hts (fun _ h9 => List.mem_cons_of_mem _ (List.mem_append_right _ h9)) tyX8 tyX8_ok nmX8 hown hK hP hD hS (182 + 6 * b0) (by omega) (cC_t0 _ _ _ _ _ b0) rfl 0 (by decide) (hts (.fieldLink RX8 9 "SeatsRound$Table" "members" "I") (List.mem_of_getElem? (i := 1) rfl)) (fun _ h9 => h9) rfl (tyX8_ok 0 (by decide)) rfl rfl (Nat.le_of_ble_eq_true rfl) (oC_t_0 _ _ _ _ _ _ b0) h dX8_takeAll_5 (fun σ1 H locs h hP hD hS => ?_)
    refine lv_aload_n hx hb dX8_takeAll_8 rfl (lv_at hl 1 rfl) ?_
    refine ux_get (D := (dC, dI)) (ci := 8) (v := .ref (ad (182 + 6 * b1 + 1))) (C := RX8) (T := TX8) (M := 13) (fs := (oTB ad (182 + 6 * b1) (σ1.1 (182 + 6 * b1)))) hx hb hts (fun _ h9 => List.mem_cons_of_mem _ (List.mem_append_right _ h9)) hown hK hP (182 + 6 * b1) (by omega) (cC_t0 _ _ _ _ _ b1) rfl 8 (by decide) (hts (.fieldLink RX8 37 "SeatsRound$Table" "weight" "[I") (List.mem_of_getElem? (i := 2) rfl)) (fun _ h9 => h9) rfl dX8_takeAll_9 ?_
    refine lv_iconst (v := 0) hx hb dX8_takeAll_12 (by decide) ?_
    refine lv_aload_n hx hb dX8_takeAll_13 rfl (lv_at hl 0 rfl) ?_
    refine ux_get (D := (dC, dI)) (ci := 8) (v := .ref (ad (182 + 6 * b0 + 1))) (C := RX8) (T := TX8) (M := 13) (fs := (oTB ad (182 + 6 * b0) (σ1.1 (182 + 6 * b0)))) hx hb hts (fun _ h9 => List.mem_cons_of_mem _ (List.mem_append_right _ h9)) hown hK hP (182 + 6 * b0) (by omega) (cC_t0 _ _ _ _ _ b0) rfl 8 (by decide) (hts (.fieldLink RX8 37 "SeatsRound$Table" "weight" "[I") (List.mem_of_getElem? (i := 2) rfl)) (fun _ h9 => h9) rfl dX8_takeAll_14 ?_
    refine lv_iconst (v := 0) hx hb dX8_takeAll_17 (by decide) ?_
    refine lv_bipush (v := 12) hx hb dX8_takeAll_18 (by decide) ?_
    refine ux_copyi hx hb (hml.trans hl.1.symm) hown (hts (.methodLink RX8 70 arraycopyName) (List.mem_of_getElem? (i := 3) rfl)) (hts (.native arraycopyName) (List.mem_of_getElem? (i := 4) rfl)) (hts (.static arraycopyName) (List.mem_of_getElem? (i := 5) rfl)) (hts (.initialized "java/lang/System") (List.mem_of_getElem? (i := 6) rfl)) hK hP hD hS (182 + 6 * b1 + 1) (182 + 6 * b0 + 1) 0 (by omega) (by omega) (cC_t1 _ _ _ _ _ b1) (fun _ => (cC_t1 _ _ _ _ _ b0)) rfl rfl h (Nat.le_of_ble_eq_true rfl) (Nat.le_of_ble_eq_true rfl) dX8_takeAll_20 (fun σ2 H locs h hP hD hS => ?_)
    change W _ _ _ _ _ _ _ _ _ _ _ _ _ _ _ (F0 m 23 ls [])
    refine lv_aload_n hx hb dX8_takeAll_23 rfl (lv_at hl 0 rfl) ?_
    refine lv_aload_n hx hb dX8_takeAll_24 rfl (lv_at hl 1 rfl) ?_
    refine ux_get (D := (dC, dI)) (ci := 8) (v := .ref (ad (182 + 6 * b1 + 3))) (C := RX8) (T := TX8) (M := 13) (fs := (oTB ad (182 + 6 * b1) (σ2.1 (182 + 6 * b1)))) hx hb hts (fun _ h9 => List.mem_cons_of_mem _ (List.mem_append_right _ h9)) hown hK hP (182 + 6 * b1) (by omega) (cC_t0 _ _ _ _ _ b1) rfl 10 (by decide) (hts (.fieldLink RX8 44 "SeatsRound$Table" "law" "[B") (List.mem_of_getElem? (i := 7) rfl)) (fun _ h9 => h9) rfl dX8_takeAll_25 ?_
    refine lv_aload_n hx hb dX8_takeAll_28 rfl (lv_at hl 1 rfl) ?_
    refine ux_get (D := (dC, dI)) (ci := 8) (v := .int (σ2.1 (182 + 6 * b1) 6)) (C := RX8) (T := TX8) (M := 13) (fs := (oTB ad (182 + 6 * b1) (σ2.1 (182 + 6 * b1)))) hx hb hts (fun _ h9 => List.mem_cons_of_mem _ (List.mem_append_right _ h9)) hown hK hP (182 + 6 * b1) (by omega) (cC_t0 _ _ _ _ _ b1) rfl 6 (by decide) (hts (.fieldLink RX8 30 "SeatsRound$Table" "lawLength" "I") (List.mem_of_getElem? (i := 8) rfl)) (fun _ h9 => h9) rfl dX8_takeAll_29 ?_
    obtain ⟨r3, σ4, hf5, h⟩ := bsS h
    refine ux_callv (va_runV (As := [.ref (ad (182 + 6 * b1 + 3)), .int (σ2.1 (182 + 6 * b1) 6)]) (rest := []) ⟨hx, hb, hml, hown, hts⟩ (tX8_takeLaw l dC dI cy ad τ nb hτ b0 (by omega) (182 + 6 * b1 + 3) 80 (by omega) (fun _ _ => (cC_t3 _ _ _ _ _ b1)) σ2 (σ2.1 (182 + 6 * b1) 6) H.size r3 σ4 hf5) (cwV 2 hts gX8_takeAll_X8_takeLaw rfl rfl rfl (by decide +kernel) ⟨Nat.le_of_ble_eq_true rfl, Nat.le_of_ble_eq_true rfl⟩) (wp_V hK hN hP hD (va_recv hK hP (ci := 8) (q0 := (182 + 6 * b0)) rfl (wG_of (by omega) (cC_t0 _ _ _ _ _ b0)))) rfl rfl hl.1 rfl (lv_room (Nat.le_of_ble_eq_true rfl)) dX8_takeAll_32 ⟨Nat.le_of_ble_eq_true rfl, Nat.le_of_ble_eq_true rfl⟩) hD hS hA (fun H locs hP hD hS => ?_)
    refine lv_aload_n hx hb dX8_takeAll_35 rfl (lv_at hl 0 rfl) ?_
    refine lv_aload_n hx hb dX8_takeAll_36 rfl (lv_at hl 1 rfl) ?_
    refine ux_get (D := (dC, dI)) (ci := 8) (v := .int (σ4.1 (182 + 6 * b1) 2)) (C := RX8) (T := TX8) (M := 13) (fs := (oTB ad (182 + 6 * b1) (σ4.1 (182 + 6 * b1)))) hx hb hts (fun _ h9 => List.mem_cons_of_mem _ (List.mem_append_right _ h9)) hown hK hP (182 + 6 * b1) (by omega) (cC_t0 _ _ _ _ _ b1) rfl 2 (by decide) (hts (.fieldLink RX8 18 "SeatsRound$Table" "copies" "I") (List.mem_of_getElem? (i := 9) rfl)) (fun _ h9 => h9) rfl dX8_takeAll_37 ?_
    refine ux_put (D := (dC, dI)) (ci := 8) (C := RX8) (T := TX8) (M := 13) (fs := (oTB ad (182 + 6 * b0) (σ4.1 (182 + 6 * b0)))) hx hb hts (fun _ h9 => List.mem_cons_of_mem _ (List.mem_append_right _ h9)) tyX8 tyX8_ok nmX8 hown hK hP hD hS (182 + 6 * b0) (by omega) (cC_t0 _ _ _ _ _ b0) rfl 2 (by decide) (hts (.fieldLink RX8 18 "SeatsRound$Table" "copies" "I") (List.mem_of_getElem? (i := 9) rfl)) (fun _ h9 => h9) rfl (tyX8_ok 2 (by decide)) rfl rfl (Nat.le_of_ble_eq_true rfl) (oC_t_2 _ _ _ _ _ _ b0) h dX8_takeAll_40 (fun σ6 H locs h hP hD hS => ?_)
    refine lv_aload_n hx hb dX8_takeAll_43 rfl (lv_at hl 0 rfl) ?_
    refine lv_aload_n hx hb dX8_takeAll_44 rfl (lv_at hl 1 rfl) ?_
    refine ux_get (D := (dC, dI)) (ci := 8) (v := .int (σ6.1 (182 + 6 * b1) 3)) (C := RX8) (T := TX8) (M := 13) (fs := (oTB ad (182 + 6 * b1) (σ6.1 (182 + 6 * b1)))) hx hb hts (fun _ h9 => List.mem_cons_of_mem _ (List.mem_append_right _ h9)) hown hK hP (182 + 6 * b1) (by omega) (cC_t0 _ _ _ _ _ b1) rfl 3 (by decide) (hts (.fieldLink RX8 21 "SeatsRound$Table" "streets" "I") (List.mem_of_getElem? (i := 10) rfl)) (fun _ h9 => h9) rfl dX8_takeAll_45 ?_
    refine ux_put (D := (dC, dI)) (ci := 8) (C := RX8) (T := TX8) (M := 13) (fs := (oTB ad (182 + 6 * b0) (σ6.1 (182 + 6 * b0)))) hx hb hts (fun _ h9 => List.mem_cons_of_mem _ (List.mem_append_right _ h9)) tyX8 tyX8_ok nmX8 hown hK hP hD hS (182 + 6 * b0) (by omega) (cC_t0 _ _ _ _ _ b0) rfl 3 (by decide) (hts (.fieldLink RX8 21 "SeatsRound$Table" "streets" "I") (List.mem_of_getElem? (i := 10) rfl)) (fun _ h9 => h9) rfl (tyX8_ok 3 (by decide)) rfl rfl (Nat.le_of_ble_eq_true rfl) (oC_t_3 _ _ _ _ _ _ b0) h dX8_takeAll_48 (fun σ7 H locs h hP hD hS => ?_)
    refine lv_aload_n hx hb dX8_takeAll_51 rfl (lv_at hl 0 rfl) ?_
    refine lv_aload_n hx hb dX8_takeAll_52 rfl (lv_at hl 1 rfl) ?_
    refine ux_get (D := (dC, dI)) (ci := 8) (v := .int (σ7.1 (182 + 6 * b1) 4)) (C := RX8) (T := TX8) (M := 13) (fs := (oTB ad (182 + 6 * b1) (σ7.1 (182 + 6 * b1)))) hx hb hts (fun _ h9 => List.mem_cons_of_mem _ (List.mem_append_right _ h9)) hown hK hP (182 + 6 * b1) (by omega) (cC_t0 _ _ _ _ _ b1) rfl 4 (by decide) (hts (.fieldLink RX8 24 "SeatsRound$Table" "way" "I") (List.mem_of_getElem? (i := 11) rfl)) (fun _ h9 => h9) rfl dX8_takeAll_53 ?_
    refine ux_put (D := (dC, dI)) (ci := 8) (C := RX8) (T := TX8) (M := 13) (fs := (oTB ad (182 + 6 * b0) (σ7.1 (182 + 6 * b0)))) hx hb hts (fun _ h9 => List.mem_cons_of_mem _ (List.mem_append_right _ h9)) tyX8 tyX8_ok nmX8 hown hK hP hD hS (182 + 6 * b0) (by omega) (cC_t0 _ _ _ _ _ b0) rfl 4 (by decide) (hts (.fieldLink RX8 24 "SeatsRound$Table" "way" "I") (List.mem_of_getElem? (i := 11) rfl)) (fun _ h9 => h9) rfl (tyX8_ok 4 (by decide)) rfl rfl (Nat.le_of_ble_eq_true rfl) (oC_t_4 _ _ _ _ _ _ b0) h dX8_takeAll_56 (fun σ8 H locs h hP hD hS => ?_)
    exact ux_vret hx hb hr h hP hD hS hlocks dX8_takeAll_59
  intro H locs ls h hP hD hS hl
  exact w0 σ H locs ls h hP hD hS (lv_sub hl [0, 1] rfl)

set_option maxHeartbeats 4000000 in
set_option maxRecDepth 100000 in
theorem tJ7_fill_031fb (l : Launch) (dC : Nat → ClassId) (dI : Nat → Nat → Nat) (cy : Nat → ClassId) (ad : Nat → Nat) (τ nb : Nat) (hτ : τ < nb) (c0 n0 : Nat) (hc0 : c0 < 182 + 6 * nb) (hs0 : ∀ (g : Nat → Int32) (q : Nat → Int64), cC cy ad τ c0 g q = .inl (cy 1, n0, .inl g)) (σ : S2) (a1 : Int32) (sz : Nat) (r0 : Unit) (σ9 : S2) (h : fJ7_fill_031fb τ c0 n0 σ a1 = some (r0, σ9)) : Met l yJ7_fill_031fb wsJ7_fill_031fb ({ frames := 1, cells := 0, slots := 0, locals := 23 }) (va_Pc [.ref (ad c0), .int a1] (wPre (dC, dI) cy (wG (cC cy ad τ) ad (182 + 6 * nb) σ) sz)) (va_Qv (fun (_ : Unit) => True) (fun (_ : Unit) t => wAt (dC, dI) (va_A (wG (cC cy ad τ) ad (182 + 6 * nb) σ) sz) (wG (cC cy ad τ) ad (182 + 6 * nb) σ9) t) (va_A (wG (cC cy ad τ) ad (182 + 6 * nb) σ) sz)) 0 0 (va_A (wG (cC cy ad τ) ad (182 + 6 * nb) σ) sz) := by
  refine Met.ofW (cc := cJ7_fill_031fb) (maxL := 4) (ret := none) (by decide) rfl ?_
  intro p e s m args below meth c s₁ B hml hv
  obtain ⟨rfl, hsz, hP, hK, hD0, hN⟩ := hv
  have hx := B.exec
  have hb := B.bytes
  have hr := B.returns
  have hts := atoms_spec (ws := wsJ7_fill_031fb) B.pre
  have hown : s.vm.findClass RJ7 = some m.cls := findClass_of_methodNamed B.named
  have hlocks := B.notSynchronized
  subst hsz
  have hD := hD0.self (sz := s.heap.size)
  generalize hAe : va_A (wG (cC cy ad τ) ad (182 + 6 * nb) σ) s.heap.size = A at hD ⊢
  have hA : ∀ q : Nat, s.heap.size ≤ q → A q := fun q h => by rw [← hAe]; exact Or.inr h
  have hS : va_S A s.heap s.heap [] := va_S.rf
  have hl := lv_entry ([.ref (ad c0), .int a1]) (n := 4) (Nat.le_of_ble_eq_true rfl)
  rw [lg_entry_eq]
  generalize (lg_sl ([.ref (ad c0), .int a1]) ++ List.replicate (4 - (lg_sl ([.ref (ad c0), .int a1])).length) Slot.unset).toArray = ls at hl ⊢
  have hl : lv_has ls 4 [(0, .ref (ad c0)), (1, .int a1)] := hl
  unfold fJ7_fill_031fb at h
  clear hAe hD0
  suffices HH : ∀ (H : Heap) (locs : List Loc) (ls : Array Slot), fJ7_fill_031fb_0 τ c0 n0 σ a1 = some (r0, σ9) → va_P (dC, dI) vwCl (wG (cC cy ad τ) ad (182 + 6 * nb) σ) H → va_D A (wG (cC cy ad τ) ad (182 + 6 * nb) σ) → va_S A s.heap H locs → lv_has ls 4 [(0, .ref (ad c0)), (1, .int a1)] → W p l e (headSpec wsJ7_fill_031fb ({ frames := 1, cells := 0, slots := 0, locals := 23 })).room s m (#[.ref (ad c0), .int a1]) below meth c H locs 0 0 (MQ below (va_Qv (fun (_ : Unit) => True) (fun (_ : Unit) t => wAt (dC, dI) A (wG (cC cy ad τ) ad (182 + 6 * nb) σ9) t) A) (#[.ref (ad c0), .int a1]) s 0 0 A) (F0 m 0 ls []) from HH s.heap [] ls h hP hD hS hl
  have w5 : ∀ (n : Nat), ∀ (σ : S2) (x1 : Int32) (x2 : Int32) (x3 : Int32) (H : Heap) (locs : List Loc) (ls : Array Slot), fJ7_fill_031fb_5 τ c0 n0 n σ x1 x2 x3 = some (r0, σ9) → va_P (dC, dI) vwCl (wG (cC cy ad τ) ad (182 + 6 * nb) σ) H → va_D A (wG (cC cy ad τ) ad (182 + 6 * nb) σ) → va_S A s.heap H locs → lv_has ls 4 [(0, .ref (ad c0)), (1, .int x1), (2, .int x2), (3, .int x3)] → W p l e (headSpec wsJ7_fill_031fb ({ frames := 1, cells := 0, slots := 0, locals := 23 })).room s m (#[.ref (ad c0), .int a1]) below meth c H locs 0 0 (MQ below (va_Qv (fun (_ : Unit) => True) (fun (_ : Unit) t => wAt (dC, dI) A (wG (cC cy ad τ) ad (182 + 6 * nb) σ9) t) A) (#[.ref (ad c0), .int a1]) s 0 0 A) (F0 m 5 ls []) := by
    intro n
    induction n with
    | zero => intro σ x1 x2 x3 H locs ls h; cases h
    | succ n ih =>
    intro σ x1 x2 x3 H locs ls h hP hD hS hl
    unfold fJ7_fill_031fb_5 at h
    refine lv_iload_n hx hb dJ7_fill_031fb_5 rfl (lv_at hl 2 rfl) ?_
    refine lv_iload_n hx hb dJ7_fill_031fb_6 rfl (lv_at hl 3 rfl) ?_
    refine lv_icmp_ge (tgt := 20) hx hb dJ7_fill_031fb_7 (by decide) (fun hcd => ?_) (fun hcd => ?_)
    · have h := cdP hcd h
      exact ux_vret hx hb hr h hP hD hS hlocks dJ7_fill_031fb_20
    · have h := cdN hcd h
      refine lv_aload_n hx hb dJ7_fill_031fb_10 rfl (lv_at hl 0 rfl) ?_
      refine lv_iload_n hx hb dJ7_fill_031fb_11 rfl (lv_at hl 2 rfl) ?_
      refine lv_iload_n hx hb dJ7_fill_031fb_12 rfl (lv_at hl 1 rfl) ?_
      refine ux_bast hx hb hK hP hD hS c0 1 hc0 (fun _ => (hs0 _ _)) rfl h dJ7_fill_031fb_13 (fun σ1 H locs h hP hD hS => ?_)
      obtain ⟨v2, ev2⟩ : ∃ y : Int32, y = x2 + 1 := ⟨_, rfl⟩
      have h := nmS h ev2
      refine lv_iinc (v := v2) (lv' := [(2, .int v2), (0, .ref (ad c0)), (1, .int x1), (3, .int x3)]) hx hb dJ7_fill_031fb_14 hl (k := 2) rfl (by rw [ev2]; rfl) (by decide) rfl (fun ls hl => ?_)
      have hl := lv_sub hl [1, 2, 0, 3] (l' := [(0, .ref (ad c0)), (1, .int x1), (2, .int v2), (3, .int x3)]) rfl
      refine lv_goto (tgt := 5) hx hb dJ7_fill_031fb_17 (by decide) ?_
      exact ih σ1 x1 v2 x3 H locs ls h hP hD hS hl
  have w0 : ∀ (σ : S2) (x1 : Int32) (H : Heap) (locs : List Loc) (ls : Array Slot), fJ7_fill_031fb_0 τ c0 n0 σ x1 = some (r0, σ9) → va_P (dC, dI) vwCl (wG (cC cy ad τ) ad (182 + 6 * nb) σ) H → va_D A (wG (cC cy ad τ) ad (182 + 6 * nb) σ) → va_S A s.heap H locs → lv_has ls 4 [(0, .ref (ad c0)), (1, .int x1)] → W p l e (headSpec wsJ7_fill_031fb ({ frames := 1, cells := 0, slots := 0, locals := 23 })).room s m (#[.ref (ad c0), .int a1]) below meth c H locs 0 0 (MQ below (va_Qv (fun (_ : Unit) => True) (fun (_ : Unit) t => wAt (dC, dI) A (wG (cC cy ad τ) ad (182 + 6 * nb) σ9) t) A) (#[.ref (ad c0), .int a1]) s 0 0 A) (F0 m 0 ls []) := by
    intro σ x1 H locs ls h hP hD hS hl
    unfold fJ7_fill_031fb_0 at h
    refine lv_iconst (v := 0) hx hb dJ7_fill_031fb_0 (by decide) ?_
    refine lv_istore_n (lv' := [(2, .int 0), (0, .ref (ad c0)), (1, .int x1)]) hx hb dJ7_fill_031fb_1 rfl hl (by decide) rfl (fun ls hl => ?_)
    have hl := lv_sub hl [1, 2, 0] (l' := [(0, .ref (ad c0)), (1, .int x1), (2, .int 0)]) rfl
    refine lv_aload_n hx hb dJ7_fill_031fb_2 rfl (lv_at hl 0 rfl) ?_
    refine ux_alen (v := Int32.ofNat n0) hx hb hK hP c0 1 hc0 (hs0 _ _) rfl rfl dJ7_fill_031fb_3 ?_
    refine lv_topi (fun v3 ev3 => ?_)
    have h := nmS h ev3
    refine lv_istore_n (lv' := [(3, .int v3), (0, .ref (ad c0)), (1, .int x1), (2, .int 0)]) hx hb dJ7_fill_031fb_4 rfl hl (by decide) rfl (fun ls hl => ?_)
    have hl := lv_sub hl [1, 2, 3, 0] (l' := [(0, .ref (ad c0)), (1, .int x1), (2, .int 0), (3, .int v3)]) rfl
    exact w5 FU σ x1 0 v3 H locs ls h hP hD hS hl
  intro H locs ls h hP hD hS hl
  exact w0 σ a1 H locs ls h hP hD hS (lv_sub hl [0, 1] rfl)

set_option maxHeartbeats 4000000 in
set_option maxRecDepth 100000 in
theorem tX8_freeFrom (l : Launch) (dC : Nat → ClassId) (dI : Nat → Nat → Nat) (cy : Nat → ClassId) (ad : Nat → Nat) (τ nb : Nat) (hτ : τ < nb) (b0 : Nat) (hb0 : b0 < nb) (σ : S2) (a1 : Int32) (sz : Nat) (r0 : Int32) (h : fX8_freeFrom τ b0 σ a1 = some r0) : Met l yX8_freeFrom wsX8_freeFrom ({ frames := 2, cells := 0, slots := 0, locals := 43 }) (va_Pc [.ref (ad (182 + 6 * b0)), .int a1] (wPre (dC, dI) cy (wG (cC cy ad τ) ad (182 + 6 * nb) σ) sz)) (va_Qi (fun (r : Int32) (_ : Unit) => r = r0) (fun (_ : Unit) t => wAt (dC, dI) (va_A (wG (cC cy ad τ) ad (182 + 6 * nb) σ) sz) (wG (cC cy ad τ) ad (182 + 6 * nb) σ) t) (va_A (wG (cC cy ad τ) ad (182 + 6 * nb) σ) sz)) 0 0 (va_A (wG (cC cy ad τ) ad (182 + 6 * nb) σ) sz) := by
  refine Met.ofW (cc := cX8_freeFrom) (maxL := 4) (ret := (some .int)) (by decide) rfl ?_
  intro p e s m args below meth c s₁ B hml hv
  obtain ⟨rfl, hsz, hP, hK, hD0, hN⟩ := hv
  have hx := B.exec
  have hb := B.bytes
  have hr := B.returns
  have hts := atoms_spec (ws := wsX8_freeFrom) B.pre
  have hown : s.vm.findClass RX8 = some m.cls := findClass_of_methodNamed B.named
  have hlocks := B.notSynchronized
  subst hsz
  have hD := hD0.self (sz := s.heap.size)
  generalize hAe : va_A (wG (cC cy ad τ) ad (182 + 6 * nb) σ) s.heap.size = A at hD ⊢
  have hA : ∀ q : Nat, s.heap.size ≤ q → A q := fun q h => by rw [← hAe]; exact Or.inr h
  have hS : va_S A s.heap s.heap [] := va_S.rf
  have hl := lv_entry ([.ref (ad (182 + 6 * b0)), .int a1]) (n := 4) (Nat.le_of_ble_eq_true rfl)
  rw [lg_entry_eq]
  generalize (lg_sl ([.ref (ad (182 + 6 * b0)), .int a1]) ++ List.replicate (4 - (lg_sl ([.ref (ad (182 + 6 * b0)), .int a1])).length) Slot.unset).toArray = ls at hl ⊢
  have hl : lv_has ls 4 [(0, .ref (ad (182 + 6 * b0))), (1, .int a1)] := hl
  unfold fX8_freeFrom at h
  clear hAe hD0
  suffices HH : ∀ (H : Heap) (locs : List Loc) (ls : Array Slot), fX8_freeFrom_0 τ b0 σ a1 = some r0 → va_P (dC, dI) vwCl (wG (cC cy ad τ) ad (182 + 6 * nb) σ) H → va_D A (wG (cC cy ad τ) ad (182 + 6 * nb) σ) → va_S A s.heap H locs → lv_has ls 4 [(0, .ref (ad (182 + 6 * b0))), (1, .int a1)] → W p l e (headSpec wsX8_freeFrom ({ frames := 2, cells := 0, slots := 0, locals := 43 })).room s m (#[.ref (ad (182 + 6 * b0)), .int a1]) below meth c H locs 0 0 (MQ below (va_Qi (fun (r : Int32) (_ : Unit) => r = r0) (fun (_ : Unit) t => wAt (dC, dI) A (wG (cC cy ad τ) ad (182 + 6 * nb) σ) t) A) (#[.ref (ad (182 + 6 * b0)), .int a1]) s 0 0 A) (F0 m 0 ls []) from HH s.heap [] ls h hP hD hS hl
  have w4 : ∀ (n : Nat), ∀ (σ : S2) (x2 : Int32) (x3 : Int32) (H : Heap) (locs : List Loc) (ls : Array Slot), fX8_freeFrom_4 τ b0 n σ x2 x3 = some r0 → va_P (dC, dI) vwCl (wG (cC cy ad τ) ad (182 + 6 * nb) σ) H → va_D A (wG (cC cy ad τ) ad (182 + 6 * nb) σ) → va_S A s.heap H locs → lv_has ls 4 [(0, .ref (ad (182 + 6 * b0))), (2, .int x2), (3, .int x3)] → W p l e (headSpec wsX8_freeFrom ({ frames := 2, cells := 0, slots := 0, locals := 43 })).room s m (#[.ref (ad (182 + 6 * b0)), .int a1]) below meth c H locs 0 0 (MQ below (va_Qi (fun (r : Int32) (_ : Unit) => r = r0) (fun (_ : Unit) t => wAt (dC, dI) A (wG (cC cy ad τ) ad (182 + 6 * nb) σ) t) A) (#[.ref (ad (182 + 6 * b0)), .int a1]) s 0 0 A) (F0 m 4 ls []) := by
    intro n
    induction n with
    | zero => intro σ x2 x3 H locs ls h; cases h
    | succ n ih =>
    intro σ x2 x3 H locs ls h hP hD hS hl
    unfold fX8_freeFrom_4 at h
    refine lv_iload_n hx hb dX8_freeFrom_4 rfl (lv_at hl 2 rfl) ?_
    refine lv_sipush (v := 1000) hx hb dX8_freeFrom_5 (by decide) ?_
    refine lv_icmp_ge (tgt := 32) hx hb dX8_freeFrom_8 (by decide) (fun hcd => ?_) (fun hcd => ?_)
    · have h := cdP hcd h
      refine lv_iload_n hx hb dX8_freeFrom_32 rfl (lv_at hl 1 rfl) ?_
      exact ux_iretP hx hb hr h hP hD hS hlocks dX8_freeFrom_33
    · have h := cdN hcd h
      refine lv_aload_n hx hb dX8_freeFrom_11 rfl (lv_at hl 0 rfl) ?_
      refine ux_get (D := (dC, dI)) (ci := 8) (v := .ref (ad (182 + 6 * b0 + 4))) (C := RX8) (T := TX8) (M := 13) (fs := (oTB ad (182 + 6 * b0) (σ.1 (182 + 6 * b0)))) hx hb hts (fun _ h9 => List.mem_cons_of_mem _ (List.mem_append_right _ h9)) hown hK hP (182 + 6 * b0) (by omega) (cC_t0 _ _ _ _ _ b0) rfl 11 (by decide) (hts (.fieldLink RX8 48 "SeatsRound$Table" "owner" "[B") (List.mem_of_getElem? (i := 1) rfl)) (fun _ h9 => h9) rfl dX8_freeFrom_12 ?_
      refine lv_iload_n hx hb dX8_freeFrom_15 rfl (lv_at hl 1 rfl) ?_
      refine ux_bald hx hb hK hP (182 + 6 * b0 + 4) 1 (by omega) (cC_t4 _ _ _ _ _ b0) rfl h dX8_freeFrom_16 (fun v1 h => ?_)
      refine lv_iconst (v := (-1)) hx hb dX8_freeFrom_17 (by decide) ?_
      refine lv_icmp_eq (tgt := 32) hx hb dX8_freeFrom_18 (by decide) (fun hcd => ?_) (fun hcd => ?_)
      · have h := cdP hcd h
        refine lv_iload_n hx hb dX8_freeFrom_32 rfl (lv_at hl 1 rfl) ?_
        exact ux_iretP hx hb hr h hP hD hS hlocks dX8_freeFrom_33
      · have h := cdN hcd h
        refine lv_iload_n hx hb dX8_freeFrom_21 rfl (lv_at hl 1 rfl) ?_
        obtain ⟨r2, hf3, h⟩ := biS h
        refine ux_calli (va_runSN (As := [.int x2]) (rest := []) ⟨hx, hb, hml, hown, hts⟩ (tX11_placeBehind l dC dI cy ad τ nb hτ σ x2 H.size r2 hf3) ⟨va_cnB 1 hts gX8_freeFrom_X11_placeBehind_n96 rfl rfl rfl (hN.1 _ (List.mem_of_getElem? (i := 7) rfl)) (hts (.initialized RX11) (List.mem_of_getElem? (i := 3) rfl)) (by decide +kernel) ⟨Nat.le_of_ble_eq_true rfl, Nat.le_of_ble_eq_true rfl⟩, (hts (.static yX11_placeBehind) (List.mem_of_getElem? (i := 2) rfl)), trivial⟩ (wp_S hK hN hP hD) rfl rfl hl.1 rfl (lv_room (Nat.le_of_ble_eq_true rfl)) dX8_freeFrom_22 ⟨Nat.le_of_ble_eq_true rfl, Nat.le_of_ble_eq_true rfl⟩) hD hS hA (fun H locs hP hD hS => ?_)
        refine lv_istore_n (lv' := [(2, .int r2), (0, .ref (ad (182 + 6 * b0))), (3, .int x3)]) hx hb dX8_freeFrom_25 rfl hl (by decide) rfl (fun ls hl => ?_)
        have hl := lv_sub hl [1, 0, 2] (l' := [(0, .ref (ad (182 + 6 * b0))), (2, .int r2), (3, .int x3)]) rfl
        obtain ⟨v4, ev4⟩ : ∃ y : Int32, y = x3 + 1 := ⟨_, rfl⟩
        have h := nmS h ev4
        refine lv_iinc (v := v4) (lv' := [(3, .int v4), (0, .ref (ad (182 + 6 * b0))), (2, .int r2)]) hx hb dX8_freeFrom_26 hl (k := 2) rfl (by rw [ev4]; rfl) (by decide) rfl (fun ls hl => ?_)
        have hl := lv_sub hl [1, 2, 0] (l' := [(0, .ref (ad (182 + 6 * b0))), (2, .int r2), (3, .int v4)]) rfl
        refine lv_goto (tgt := 4) hx hb dX8_freeFrom_29 (by decide) ?_
        exact ih σ r2 v4 H locs ls h hP hD hS hl
  have w0 : ∀ (σ : S2) (x1 : Int32) (H : Heap) (locs : List Loc) (ls : Array Slot), fX8_freeFrom_0 τ b0 σ x1 = some r0 → va_P (dC, dI) vwCl (wG (cC cy ad τ) ad (182 + 6 * nb) σ) H → va_D A (wG (cC cy ad τ) ad (182 + 6 * nb) σ) → va_S A s.heap H locs → lv_has ls 4 [(0, .ref (ad (182 + 6 * b0))), (1, .int x1)] → W p l e (headSpec wsX8_freeFrom ({ frames := 2, cells := 0, slots := 0, locals := 43 })).room s m (#[.ref (ad (182 + 6 * b0)), .int a1]) below meth c H locs 0 0 (MQ below (va_Qi (fun (r : Int32) (_ : Unit) => r = r0) (fun (_ : Unit) t => wAt (dC, dI) A (wG (cC cy ad τ) ad (182 + 6 * nb) σ) t) A) (#[.ref (ad (182 + 6 * b0)), .int a1]) s 0 0 A) (F0 m 0 ls []) := by
    intro σ x1 H locs ls h hP hD hS hl
    unfold fX8_freeFrom_0 at h
    refine lv_iload_n hx hb dX8_freeFrom_0 rfl (lv_at hl 1 rfl) ?_
    refine lv_istore_n (lv' := [(2, .int x1), (0, .ref (ad (182 + 6 * b0))), (1, .int x1)]) hx hb dX8_freeFrom_1 rfl hl (by decide) rfl (fun ls hl => ?_)
    have hl := lv_sub hl [1, 2, 0] (l' := [(0, .ref (ad (182 + 6 * b0))), (1, .int x1), (2, .int x1)]) rfl
    refine lv_iconst (v := 0) hx hb dX8_freeFrom_2 (by decide) ?_
    refine lv_istore_n (lv' := [(3, .int 0), (0, .ref (ad (182 + 6 * b0))), (1, .int x1), (2, .int x1)]) hx hb dX8_freeFrom_3 rfl hl (by decide) rfl (fun ls hl => ?_)
    have hl := lv_sub hl [1, 2, 3, 0] (l' := [(0, .ref (ad (182 + 6 * b0))), (1, .int x1), (2, .int x1), (3, .int 0)]) rfl
    exact w4 FU σ x1 0 H locs ls h hP hD hS (lv_sub hl [0, 2, 3] rfl)
  intro H locs ls h hP hD hS hl
  exact w0 σ a1 H locs ls h hP hD hS (lv_sub hl [0, 1] rfl)

set_option maxHeartbeats 4000000 in
set_option maxRecDepth 100000 in
theorem tX8_linkPlaces (l : Launch) (dC : Nat → ClassId) (dI : Nat → Nat → Nat) (cy : Nat → ClassId) (ad : Nat → Nat) (τ nb : Nat) (hτ : τ < nb) (b0 : Nat) (hb0 : b0 < nb) (σ : S2)  (sz : Nat) (r0 : Unit) (σ9 : S2) (h : fX8_linkPlaces τ b0 σ = some (r0, σ9)) : Met l yX8_linkPlaces wsX8_linkPlaces ({ frames := 1, cells := 0, slots := 0, locals := 23 }) (va_Pc [.ref (ad (182 + 6 * b0))] (wPre (dC, dI) cy (wG (cC cy ad τ) ad (182 + 6 * nb) σ) sz)) (va_Qv (fun (_ : Unit) => True) (fun (_ : Unit) t => wAt (dC, dI) (va_A (wG (cC cy ad τ) ad (182 + 6 * nb) σ) sz) (wG (cC cy ad τ) ad (182 + 6 * nb) σ9) t) (va_A (wG (cC cy ad τ) ad (182 + 6 * nb) σ) sz)) 0 0 (va_A (wG (cC cy ad τ) ad (182 + 6 * nb) σ) sz) := by
  refine Met.ofW (cc := cX8_linkPlaces) (maxL := 4) (ret := none) (by decide) rfl ?_
  intro p e s m args below meth c s₁ B hml hv
  obtain ⟨rfl, hsz, hP, hK, hD0, hN⟩ := hv
  have hx := B.exec
  have hb := B.bytes
  have hr := B.returns
  have hts := atoms_spec (ws := wsX8_linkPlaces) B.pre
  have hown : s.vm.findClass RX8 = some m.cls := findClass_of_methodNamed B.named
  have hlocks := B.notSynchronized
  subst hsz
  have hD := hD0.self (sz := s.heap.size)
  generalize hAe : va_A (wG (cC cy ad τ) ad (182 + 6 * nb) σ) s.heap.size = A at hD ⊢
  have hA : ∀ q : Nat, s.heap.size ≤ q → A q := fun q h => by rw [← hAe]; exact Or.inr h
  have hS : va_S A s.heap s.heap [] := va_S.rf
  have hl := lv_entry ([.ref (ad (182 + 6 * b0))]) (n := 4) (Nat.le_of_ble_eq_true rfl)
  rw [lg_entry_eq]
  generalize (lg_sl ([.ref (ad (182 + 6 * b0))]) ++ List.replicate (4 - (lg_sl ([.ref (ad (182 + 6 * b0))])).length) Slot.unset).toArray = ls at hl ⊢
  have hl : lv_has ls 4 [(0, .ref (ad (182 + 6 * b0)))] := hl
  unfold fX8_linkPlaces at h
  clear hAe hD0
  suffices HH : ∀ (H : Heap) (locs : List Loc) (ls : Array Slot), fX8_linkPlaces_0 τ b0 σ = some (r0, σ9) → va_P (dC, dI) vwCl (wG (cC cy ad τ) ad (182 + 6 * nb) σ) H → va_D A (wG (cC cy ad τ) ad (182 + 6 * nb) σ) → va_S A s.heap H locs → lv_has ls 4 [(0, .ref (ad (182 + 6 * b0)))] → W p l e (headSpec wsX8_linkPlaces ({ frames := 1, cells := 0, slots := 0, locals := 23 })).room s m (#[.ref (ad (182 + 6 * b0))]) below meth c H locs 0 0 (MQ below (va_Qv (fun (_ : Unit) => True) (fun (_ : Unit) t => wAt (dC, dI) A (wG (cC cy ad τ) ad (182 + 6 * nb) σ9) t) A) (#[.ref (ad (182 + 6 * b0))]) s 0 0 A) (F0 m 0 ls []) from HH s.heap [] ls h hP hD hS hl
  have w28 : ∀ (k6 : S2 → Int32 → Int32 → Option (Unit × S2)) (hk6 : ∀ (σ : S2) (x1 : Int32) (x2 : Int32) (H : Heap) (locs : List Loc) (ls : Array Slot), k6 σ x1 x2 = some (r0, σ9) → va_P (dC, dI) vwCl (wG (cC cy ad τ) ad (182 + 6 * nb) σ) H → va_D A (wG (cC cy ad τ) ad (182 + 6 * nb) σ) → va_S A s.heap H locs → lv_has ls 4 [(0, .ref (ad (182 + 6 * b0))), (1, .int x1), (2, .int x2)] → W p l e (headSpec wsX8_linkPlaces ({ frames := 1, cells := 0, slots := 0, locals := 23 })).room s m (#[.ref (ad (182 + 6 * b0))]) below meth c H locs 0 0 (MQ below (va_Qv (fun (_ : Unit) => True) (fun (_ : Unit) t => wAt (dC, dI) A (wG (cC cy ad τ) ad (182 + 6 * nb) σ9) t) A) (#[.ref (ad (182 + 6 * b0))]) s 0 0 A) (F0 m 6 ls [])) , ∀ (σ : S2) (x1 : Int32) (x2 : Int32) (x3 : Int32) (H : Heap) (locs : List Loc) (ls : Array Slot), fX8_linkPlaces_28 τ b0 k6 σ x1 x2 x3 = some (r0, σ9) → va_P (dC, dI) vwCl (wG (cC cy ad τ) ad (182 + 6 * nb) σ) H → va_D A (wG (cC cy ad τ) ad (182 + 6 * nb) σ) → va_S A s.heap H locs → lv_has ls 4 [(0, .ref (ad (182 + 6 * b0))), (1, .int x1), (2, .int x2), (3, .int x3)] → W p l e (headSpec wsX8_linkPlaces ({ frames := 1, cells := 0, slots := 0, locals := 23 })).room s m (#[.ref (ad (182 + 6 * b0))]) below meth c H locs 0 0 (MQ below (va_Qv (fun (_ : Unit) => True) (fun (_ : Unit) t => wAt (dC, dI) A (wG (cC cy ad τ) ad (182 + 6 * nb) σ9) t) A) (#[.ref (ad (182 + 6 * b0))]) s 0 0 A) (F0 m 28 ls []) := by
    intro k6 hk6 σ x1 x2 x3 H locs ls h hP hD hS hl
    unfold fX8_linkPlaces_28 at h
    refine lv_aload_n hx hb dX8_linkPlaces_28 rfl (lv_at hl 0 rfl) ?_
    refine ux_get (D := (dC, dI)) (ci := 8) (v := .ref (ad (182 + 6 * b0 + 5))) (C := RX8) (T := TX8) (M := 13) (fs := (oTB ad (182 + 6 * b0) (σ.1 (182 + 6 * b0)))) hx hb hts (fun _ h9 => List.mem_cons_of_mem _ (List.mem_append_right _ h9)) hown hK hP (182 + 6 * b0) (by omega) (cC_t0 _ _ _ _ _ b0) rfl 12 (by decide) (hts (.fieldLink RX8 51 "SeatsRound$Table" "ahead" "[S") (List.mem_of_getElem? (i := 2) rfl)) (fun _ h9 => h9) rfl dX8_linkPlaces_29 ?_
    refine lv_iload_n hx hb dX8_linkPlaces_32 rfl (lv_at hl 3 rfl) ?_
    refine lv_iload_n hx hb dX8_linkPlaces_33 rfl (lv_at hl 1 rfl) ?_
    refine lv_i2s hx hb dX8_linkPlaces_34 rfl ?_
    refine ux_sast hx hb hK hP hD hS (182 + 6 * b0 + 5) 3 (by omega) (fun _ => (cC_t5 _ _ _ _ _ b0)) rfl h dX8_linkPlaces_35 (fun σ1 H locs h hP hD hS => ?_)
    obtain ⟨v2, ev2⟩ : ∃ y : Int32, y = x2 + (-1) := ⟨_, rfl⟩
    have h := nmS h ev2
    refine lv_iinc (v := v2) (lv' := [(2, .int v2), (0, .ref (ad (182 + 6 * b0))), (1, .int x1), (3, .int x3)]) hx hb dX8_linkPlaces_36 hl (k := 2) rfl (by rw [ev2]; rfl) (by decide) rfl (fun ls hl => ?_)
    have hl := lv_sub hl [1, 2, 0, 3] (l' := [(0, .ref (ad (182 + 6 * b0))), (1, .int x1), (2, .int v2), (3, .int x3)]) rfl
    refine lv_goto (tgt := 6) hx hb dX8_linkPlaces_39 (by decide) ?_
    exact hk6 σ1 x1 v2 H locs ls h hP hD hS (lv_sub hl [0, 1, 2] rfl)
  have w6 : ∀ (n : Nat), ∀ (σ : S2) (x1 : Int32) (x2 : Int32) (H : Heap) (locs : List Loc) (ls : Array Slot), fX8_linkPlaces_6 τ b0 n σ x1 x2 = some (r0, σ9) → va_P (dC, dI) vwCl (wG (cC cy ad τ) ad (182 + 6 * nb) σ) H → va_D A (wG (cC cy ad τ) ad (182 + 6 * nb) σ) → va_S A s.heap H locs → lv_has ls 4 [(0, .ref (ad (182 + 6 * b0))), (1, .int x1), (2, .int x2)] → W p l e (headSpec wsX8_linkPlaces ({ frames := 1, cells := 0, slots := 0, locals := 23 })).room s m (#[.ref (ad (182 + 6 * b0))]) below meth c H locs 0 0 (MQ below (va_Qv (fun (_ : Unit) => True) (fun (_ : Unit) t => wAt (dC, dI) A (wG (cC cy ad τ) ad (182 + 6 * nb) σ9) t) A) (#[.ref (ad (182 + 6 * b0))]) s 0 0 A) (F0 m 6 ls []) := by
    intro n
    induction n with
    | zero => intro σ x1 x2 H locs ls h; cases h
    | succ n ih =>
    intro σ x1 x2 H locs ls h hP hD hS hl
    unfold fX8_linkPlaces_6 at h
    refine lv_iload_n hx hb dX8_linkPlaces_6 rfl (lv_at hl 2 rfl) ?_
    refine lv_if_lt (tgt := 42) hx hb dX8_linkPlaces_7 (by decide) (fun hcd => ?_) (fun hcd => ?_)
    · have h := cdP hcd h
      exact ux_vret hx hb hr h hP hD hS hlocks dX8_linkPlaces_42
    · have h := cdN hcd h
      refine lv_iload_n hx hb dX8_linkPlaces_10 rfl (lv_at hl 2 rfl) ?_
      refine lv_sipush (v := 1000) hx hb dX8_linkPlaces_11 (by decide) ?_
      obtain ⟨hz3, h⟩ := dzS h
      refine lv_irem hx hb dX8_linkPlaces_14 hz3 ?_
      refine lv_topi (fun v4 ev4 => ?_)
      have h := nmS h ev4
      refine lv_istore_n (lv' := [(3, .int v4), (0, .ref (ad (182 + 6 * b0))), (1, .int x1), (2, .int x2)]) hx hb dX8_linkPlaces_15 rfl hl (by decide) rfl (fun ls hl => ?_)
      have hl := lv_sub hl [1, 2, 3, 0] (l' := [(0, .ref (ad (182 + 6 * b0))), (1, .int x1), (2, .int x2), (3, .int v4)]) rfl
      refine lv_aload_n hx hb dX8_linkPlaces_16 rfl (lv_at hl 0 rfl) ?_
      refine ux_get (D := (dC, dI)) (ci := 8) (v := .ref (ad (182 + 6 * b0 + 4))) (C := RX8) (T := TX8) (M := 13) (fs := (oTB ad (182 + 6 * b0) (σ.1 (182 + 6 * b0)))) hx hb hts (fun _ h9 => List.mem_cons_of_mem _ (List.mem_append_right _ h9)) hown hK hP (182 + 6 * b0) (by omega) (cC_t0 _ _ _ _ _ b0) rfl 11 (by decide) (hts (.fieldLink RX8 48 "SeatsRound$Table" "owner" "[B") (List.mem_of_getElem? (i := 1) rfl)) (fun _ h9 => h9) rfl dX8_linkPlaces_17 ?_
      refine lv_iload_n hx hb dX8_linkPlaces_20 rfl (lv_at hl 3 rfl) ?_
      refine ux_bald hx hb hK hP (182 + 6 * b0 + 4) 1 (by omega) (cC_t4 _ _ _ _ _ b0) rfl h dX8_linkPlaces_21 (fun v5 h => ?_)
      refine lv_iconst (v := (-1)) hx hb dX8_linkPlaces_22 (by decide) ?_
      refine lv_icmp_eq (tgt := 28) hx hb dX8_linkPlaces_23 (by decide) (fun hcd => ?_) (fun hcd => ?_)
      · have h := cdP hcd h
        exact w28 _ ih σ x1 x2 v4 H locs ls h hP hD hS hl
      · have h := cdN hcd h
        refine lv_iload_n hx hb dX8_linkPlaces_26 rfl (lv_at hl 3 rfl) ?_
        refine lv_istore_n (lv' := [(1, .int v4), (0, .ref (ad (182 + 6 * b0))), (2, .int x2), (3, .int v4)]) hx hb dX8_linkPlaces_27 rfl hl (by decide) rfl (fun ls hl => ?_)
        have hl := lv_sub hl [1, 0, 2, 3] (l' := [(0, .ref (ad (182 + 6 * b0))), (1, .int v4), (2, .int x2), (3, .int v4)]) rfl
        exact w28 _ ih σ v4 x2 v4 H locs ls h hP hD hS hl
  have w0 : ∀ (σ : S2)  (H : Heap) (locs : List Loc) (ls : Array Slot), fX8_linkPlaces_0 τ b0 σ = some (r0, σ9) → va_P (dC, dI) vwCl (wG (cC cy ad τ) ad (182 + 6 * nb) σ) H → va_D A (wG (cC cy ad τ) ad (182 + 6 * nb) σ) → va_S A s.heap H locs → lv_has ls 4 [(0, .ref (ad (182 + 6 * b0)))] → W p l e (headSpec wsX8_linkPlaces ({ frames := 1, cells := 0, slots := 0, locals := 23 })).room s m (#[.ref (ad (182 + 6 * b0))]) below meth c H locs 0 0 (MQ below (va_Qv (fun (_ : Unit) => True) (fun (_ : Unit) t => wAt (dC, dI) A (wG (cC cy ad τ) ad (182 + 6 * nb) σ9) t) A) (#[.ref (ad (182 + 6 * b0))]) s 0 0 A) (F0 m 0 ls []) := by
    intro σ H locs ls h hP hD hS hl
    unfold fX8_linkPlaces_0 at h
    refine lv_iconst (v := 0) hx hb dX8_linkPlaces_0 (by decide) ?_
    refine lv_istore_n (lv' := [(1, .int 0), (0, .ref (ad (182 + 6 * b0)))]) hx hb dX8_linkPlaces_1 rfl hl (by decide) rfl (fun ls hl => ?_)
    have hl := lv_sub hl [1, 0] (l' := [(0, .ref (ad (182 + 6 * b0))), (1, .int 0)]) rfl
    refine lv_sipush (v := 1999) hx hb dX8_linkPlaces_2 (by decide) ?_
    refine lv_istore_n (lv' := [(2, .int 1999), (0, .ref (ad (182 + 6 * b0))), (1, .int 0)]) hx hb dX8_linkPlaces_5 rfl hl (by decide) rfl (fun ls hl => ?_)
    have hl := lv_sub hl [1, 2, 0] (l' := [(0, .ref (ad (182 + 6 * b0))), (1, .int 0), (2, .int 1999)]) rfl
    exact w6 FU σ 0 1999 H locs ls h hP hD hS hl
  intro H locs ls h hP hD hS hl
  exact w0 σ H locs ls h hP hD hS (lv_sub hl [0] rfl)

set_option maxHeartbeats 4000000 in
set_option maxRecDepth 100000 in
theorem tX8_seatAll (l : Launch) (dC : Nat → ClassId) (dI : Nat → Nat → Nat) (cy : Nat → ClassId) (ad : Nat → Nat) (τ nb : Nat) (hτ : τ < nb) (b0 : Nat) (hb0 : b0 < nb) (σ : S2) (a1 : Int32) (sz : Nat) (r0 : Unit) (σ9 : S2) (h : fX8_seatAll τ b0 σ a1 = some (r0, σ9)) : Met l yX8_seatAll wsX8_seatAll ({ frames := 3, cells := 0, slots := 0, locals := 66 }) (va_Pc [.ref (ad (182 + 6 * b0)), .int a1] (wPre (dC, dI) cy (wG (cC cy ad τ) ad (182 + 6 * nb) σ) sz)) (va_Qv (fun (_ : Unit) => True) (fun (_ : Unit) t => wAt (dC, dI) (va_A (wG (cC cy ad τ) ad (182 + 6 * nb) σ) sz) (wG (cC cy ad τ) ad (182 + 6 * nb) σ9) t) (va_A (wG (cC cy ad τ) ad (182 + 6 * nb) σ) sz)) 0 0 (va_A (wG (cC cy ad τ) ad (182 + 6 * nb) σ) sz) := by
  refine Met.ofW (cc := cX8_seatAll) (maxL := 4) (ret := none) (by decide) rfl ?_
  intro p e s m args below meth c s₁ B hml hv
  obtain ⟨rfl, hsz, hP, hK, hD0, hN⟩ := hv
  have hx := B.exec
  have hb := B.bytes
  have hr := B.returns
  have hts := atoms_spec (ws := wsX8_seatAll) B.pre
  have hown : s.vm.findClass RX8 = some m.cls := findClass_of_methodNamed B.named
  have hlocks := B.notSynchronized
  subst hsz
  have hD := hD0.self (sz := s.heap.size)
  generalize hAe : va_A (wG (cC cy ad τ) ad (182 + 6 * nb) σ) s.heap.size = A at hD ⊢
  have hA : ∀ q : Nat, s.heap.size ≤ q → A q := fun q h => by rw [← hAe]; exact Or.inr h
  have hS : va_S A s.heap s.heap [] := va_S.rf
  have hl := lv_entry ([.ref (ad (182 + 6 * b0)), .int a1]) (n := 4) (Nat.le_of_ble_eq_true rfl)
  rw [lg_entry_eq]
  generalize (lg_sl ([.ref (ad (182 + 6 * b0)), .int a1]) ++ List.replicate (4 - (lg_sl ([.ref (ad (182 + 6 * b0)), .int a1])).length) Slot.unset).toArray = ls at hl ⊢
  have hl : lv_has ls 4 [(0, .ref (ad (182 + 6 * b0))), (1, .int a1)] := hl
  unfold fX8_seatAll at h
  clear hAe hD0
  suffices HH : ∀ (H : Heap) (locs : List Loc) (ls : Array Slot), fX8_seatAll_0 τ b0 σ a1 = some (r0, σ9) → va_P (dC, dI) vwCl (wG (cC cy ad τ) ad (182 + 6 * nb) σ) H → va_D A (wG (cC cy ad τ) ad (182 + 6 * nb) σ) → va_S A s.heap H locs → lv_has ls 4 [(0, .ref (ad (182 + 6 * b0))), (1, .int a1)] → W p l e (headSpec wsX8_seatAll ({ frames := 3, cells := 0, slots := 0, locals := 66 })).room s m (#[.ref (ad (182 + 6 * b0)), .int a1]) below meth c H locs 0 0 (MQ below (va_Qv (fun (_ : Unit) => True) (fun (_ : Unit) t => wAt (dC, dI) A (wG (cC cy ad τ) ad (182 + 6 * nb) σ9) t) A) (#[.ref (ad (182 + 6 * b0)), .int a1]) s 0 0 A) (F0 m 0 ls []) from HH s.heap [] ls h hP hD hS hl
  have w33 : ∀ (k25 : S2 → Int32 → Int32 → Option (Unit × S2)) (hk25 : ∀ (σ : S2) (x1 : Int32) (x2 : Int32) (H : Heap) (locs : List Loc) (ls : Array Slot), k25 σ x1 x2 = some (r0, σ9) → va_P (dC, dI) vwCl (wG (cC cy ad τ) ad (182 + 6 * nb) σ) H → va_D A (wG (cC cy ad τ) ad (182 + 6 * nb) σ) → va_S A s.heap H locs → lv_has ls 4 [(0, .ref (ad (182 + 6 * b0))), (1, .int x1), (2, .int x2)] → W p l e (headSpec wsX8_seatAll ({ frames := 3, cells := 0, slots := 0, locals := 66 })).room s m (#[.ref (ad (182 + 6 * b0)), .int a1]) below meth c H locs 0 0 (MQ below (va_Qv (fun (_ : Unit) => True) (fun (_ : Unit) t => wAt (dC, dI) A (wG (cC cy ad τ) ad (182 + 6 * nb) σ9) t) A) (#[.ref (ad (182 + 6 * b0)), .int a1]) s 0 0 A) (F0 m 25 ls [])) (n : Nat), ∀ (σ : S2) (x1 : Int32) (x2 : Int32) (x3 : Int32) (H : Heap) (locs : List Loc) (ls : Array Slot), fX8_seatAll_33 τ b0 k25 n σ x1 x2 x3 = some (r0, σ9) → va_P (dC, dI) vwCl (wG (cC cy ad τ) ad (182 + 6 * nb) σ) H → va_D A (wG (cC cy ad τ) ad (182 + 6 * nb) σ) → va_S A s.heap H locs → lv_has ls 4 [(0, .ref (ad (182 + 6 * b0))), (1, .int x1), (2, .int x2), (3, .int x3)] → W p l e (headSpec wsX8_seatAll ({ frames := 3, cells := 0, slots := 0, locals := 66 })).room s m (#[.ref (ad (182 + 6 * b0)), .int a1]) below meth c H locs 0 0 (MQ below (va_Qv (fun (_ : Unit) => True) (fun (_ : Unit) t => wAt (dC, dI) A (wG (cC cy ad τ) ad (182 + 6 * nb) σ9) t) A) (#[.ref (ad (182 + 6 * b0)), .int a1]) s 0 0 A) (F0 m 33 ls []) := by
    intro k25 hk25 n
    induction n with
    | zero => intro σ x1 x2 x3 H locs ls h; cases h
    | succ n ih =>
    intro σ x1 x2 x3 H locs ls h hP hD hS hl
    unfold fX8_seatAll_33 at h
    refine lv_iload_n hx hb dX8_seatAll_33 rfl (lv_at hl 3 rfl) ?_
    refine lv_iconst (v := 4) hx hb dX8_seatAll_34 (by decide) ?_
    refine lv_aload_n hx hb dX8_seatAll_35 rfl (lv_at hl 0 rfl) ?_
    refine ux_get (D := (dC, dI)) (ci := 8) (v := .ref (ad (182 + 6 * b0 + 1))) (C := RX8) (T := TX8) (M := 13) (fs := (oTB ad (182 + 6 * b0) (σ.1 (182 + 6 * b0)))) hx hb hts (fun _ h9 => List.mem_cons_of_mem _ (List.mem_append_right _ h9)) hown hK hP (182 + 6 * b0) (by omega) (cC_t0 _ _ _ _ _ b0) rfl 8 (by decide) (hts (.fieldLink RX8 37 "SeatsRound$Table" "weight" "[I") (List.mem_of_getElem? (i := 5) rfl)) (fun _ h9 => h9) rfl dX8_seatAll_36 ?_
    refine lv_iload_n hx hb dX8_seatAll_39 rfl (lv_at hl 2 rfl) ?_
    refine ux_iald hx hb hK hP (182 + 6 * b0 + 1) 0 (by omega) (cC_t1 _ _ _ _ _ b0) rfl h dX8_seatAll_40 (fun v1 h => ?_)
    refine lv_imul hx hb dX8_seatAll_41 ?_
    refine lv_icmp_ge (tgt := 87) hx hb dX8_seatAll_42 (by decide) (fun hcd => ?_) (fun hcd => ?_)
    · have h := cdP hcd h
      obtain ⟨v2, ev2⟩ : ∃ y : Int32, y = x2 + 1 := ⟨_, rfl⟩
      have h := nmS h ev2
      refine lv_iinc (v := v2) (lv' := [(2, .int v2), (0, .ref (ad (182 + 6 * b0))), (1, .int x1), (3, .int x3)]) hx hb dX8_seatAll_87 hl (k := 2) rfl (by rw [ev2]; rfl) (by decide) rfl (fun ls hl => ?_)
      have hl := lv_sub hl [1, 2, 0, 3] (l' := [(0, .ref (ad (182 + 6 * b0))), (1, .int x1), (2, .int v2), (3, .int x3)]) rfl
      refine lv_goto (tgt := 25) hx hb dX8_seatAll_90 (by decide) ?_
      exact hk25 σ x1 v2 H locs ls h hP hD hS (lv_sub hl [0, 1, 2] rfl)
    · have h := cdN hcd h
      refine lv_aload_n hx hb dX8_seatAll_45 rfl (lv_at hl 0 rfl) ?_
      refine ux_get (D := (dC, dI)) (ci := 8) (v := .ref (ad (182 + 6 * b0 + 4))) (C := RX8) (T := TX8) (M := 13) (fs := (oTB ad (182 + 6 * b0) (σ.1 (182 + 6 * b0)))) hx hb hts (fun _ h9 => List.mem_cons_of_mem _ (List.mem_append_right _ h9)) hown hK hP (182 + 6 * b0) (by omega) (cC_t0 _ _ _ _ _ b0) rfl 11 (by decide) (hts (.fieldLink RX8 48 "SeatsRound$Table" "owner" "[B") (List.mem_of_getElem? (i := 4) rfl)) (fun _ h9 => h9) rfl dX8_seatAll_46 ?_
      refine lv_aload_n hx hb dX8_seatAll_49 rfl (lv_at hl 0 rfl) ?_
      refine lv_iload_n hx hb dX8_seatAll_50 rfl (lv_at hl 2 rfl) ?_
      refine lv_sipush (v := 7919) hx hb dX8_seatAll_51 (by decide) ?_
      refine lv_imul hx hb dX8_seatAll_54 ?_
      refine lv_iload_n hx hb dX8_seatAll_55 rfl (lv_at hl 3 rfl) ?_
      refine lv_ldc hx hb hown (hts (.constant RX8 86 (104729)) (List.mem_of_getElem? (i := 6) rfl)) dX8_seatAll_56 ?_
      change W _ _ _ _ _ _ _ _ _ _ _ _ _ _ _ (F0 m 58 ls [.int 104729, .int x3, .int (x2 * 7919), .ref (ad (182 + 6 * b0)), .ref (ad (182 + 6 * b0 + 4))])
      refine lv_imul hx hb dX8_seatAll_58 ?_
      refine lv_iadd hx hb dX8_seatAll_59 ?_
      refine lv_iload_n hx hb dX8_seatAll_60 rfl (lv_at hl 1 rfl) ?_
      refine lv_iadd hx hb dX8_seatAll_61 ?_
      obtain ⟨r3, hf4, h⟩ := biS h
      refine ux_calli (va_runSN (As := [.int (((x2 * 7919) + (x3 * 104729)) + x1)]) (rest := [.ref (ad (182 + 6 * b0)), .ref (ad (182 + 6 * b0 + 4))]) ⟨hx, hb, hml, hown, hts⟩ (tX11_strewn l dC dI cy ad τ nb hτ σ (((x2 * 7919) + (x3 * 104729)) + x1) H.size r3 hf4) ⟨va_cnB 1 hts gX8_seatAll_X11_strewn_n87 rfl rfl rfl (hN.1 _ (List.mem_of_getElem? (i := 6) rfl)) (hts (.initialized RX11) (List.mem_of_getElem? (i := 12) rfl)) (by decide +kernel) ⟨Nat.le_of_ble_eq_true rfl, Nat.le_of_ble_eq_true rfl⟩, (hts (.static yX11_strewn) (List.mem_of_getElem? (i := 11) rfl)), trivial⟩ (wp_S hK hN hP hD) rfl rfl hl.1 rfl (lv_room (Nat.le_of_ble_eq_true rfl)) dX8_seatAll_62 ⟨Nat.le_of_ble_eq_true rfl, Nat.le_of_ble_eq_true rfl⟩) hD hS hA (fun H locs hP hD hS => ?_)
      obtain ⟨r5, hf6, h⟩ := biS h
      refine ux_calli (va_runV (As := [.int r3]) (rest := [.ref (ad (182 + 6 * b0 + 4))]) ⟨hx, hb, hml, hown, hts⟩ (tX8_freeFrom l dC dI cy ad τ nb hτ b0 (by omega) σ r3 H.size r5 hf6) (cwV 1 hts gX8_seatAll_X8_freeFrom rfl rfl rfl (by decide +kernel) ⟨Nat.le_of_ble_eq_true rfl, Nat.le_of_ble_eq_true rfl⟩) (wp_V hK hN hP hD (va_recv hK hP (ci := 8) (q0 := (182 + 6 * b0)) rfl (wG_of (by omega) (cC_t0 _ _ _ _ _ b0)))) rfl rfl hl.1 rfl (lv_room (Nat.le_of_ble_eq_true rfl)) dX8_seatAll_65 ⟨Nat.le_of_ble_eq_true rfl, Nat.le_of_ble_eq_true rfl⟩) hD hS hA (fun H locs hP hD hS => ?_)
      refine lv_iload_n hx hb dX8_seatAll_68 rfl (lv_at hl 2 rfl) ?_
      refine lv_i2b hx hb dX8_seatAll_69 rfl ?_
      refine ux_bast hx hb hK hP hD hS (182 + 6 * b0 + 4) 1 (by omega) (fun _ => (cC_t4 _ _ _ _ _ b0)) rfl h dX8_seatAll_70 (fun σ7 H locs h hP hD hS => ?_)
      refine lv_aload_n hx hb dX8_seatAll_71 rfl (lv_at hl 0 rfl) ?_
      refine lv_dup hx hb dX8_seatAll_72 rfl ?_
      refine ux_get (D := (dC, dI)) (ci := 8) (v := .int (σ7.1 (182 + 6 * b0) 5)) (C := RX8) (T := TX8) (M := 13) (fs := (oTB ad (182 + 6 * b0) (σ7.1 (182 + 6 * b0)))) hx hb hts (fun _ h9 => List.mem_cons_of_mem _ (List.mem_append_right _ h9)) hown hK hP (182 + 6 * b0) (by omega) (cC_t0 _ _ _ _ _ b0) rfl 5 (by decide) (hts (.fieldLink RX8 27 "SeatsRound$Table" "seats" "I") (List.mem_of_getElem? (i := 2) rfl)) (fun _ h9 => h9) rfl dX8_seatAll_73 ?_
      refine lv_iconst (v := 1) hx hb dX8_seatAll_76 (by decide) ?_
      refine lv_iadd hx hb dX8_seatAll_77 ?_
      refine ux_put (D := (dC, dI)) (ci := 8) (C := RX8) (T := TX8) (M := 13) (fs := (oTB ad (182 + 6 * b0) (σ7.1 (182 + 6 * b0)))) hx hb hts (fun _ h9 => List.mem_cons_of_mem _ (List.mem_append_right _ h9)) tyX8 tyX8_ok nmX8 hown hK hP hD hS (182 + 6 * b0) (by omega) (cC_t0 _ _ _ _ _ b0) rfl 5 (by decide) (hts (.fieldLink RX8 27 "SeatsRound$Table" "seats" "I") (List.mem_of_getElem? (i := 2) rfl)) (fun _ h9 => h9) rfl (tyX8_ok 5 (by decide)) rfl rfl (Nat.le_of_ble_eq_true rfl) (oC_t_5 _ _ _ _ _ _ b0) h dX8_seatAll_78 (fun σ8 H locs h hP hD hS => ?_)
      obtain ⟨v9, ev9⟩ : ∃ y : Int32, y = x3 + 1 := ⟨_, rfl⟩
      have h := nmS h ev9
      refine lv_iinc (v := v9) (lv' := [(3, .int v9), (0, .ref (ad (182 + 6 * b0))), (1, .int x1), (2, .int x2)]) hx hb dX8_seatAll_81 hl (k := 3) rfl (by rw [ev9]; rfl) (by decide) rfl (fun ls hl => ?_)
      have hl := lv_sub hl [1, 2, 3, 0] (l' := [(0, .ref (ad (182 + 6 * b0))), (1, .int x1), (2, .int x2), (3, .int v9)]) rfl
      refine lv_goto (tgt := 33) hx hb dX8_seatAll_84 (by decide) ?_
      exact ih σ8 x1 x2 v9 H locs ls h hP hD hS hl
  have w25 : ∀ (n : Nat), ∀ (σ : S2) (x1 : Int32) (x2 : Int32) (H : Heap) (locs : List Loc) (ls : Array Slot), fX8_seatAll_25 τ b0 n σ x1 x2 = some (r0, σ9) → va_P (dC, dI) vwCl (wG (cC cy ad τ) ad (182 + 6 * nb) σ) H → va_D A (wG (cC cy ad τ) ad (182 + 6 * nb) σ) → va_S A s.heap H locs → lv_has ls 4 [(0, .ref (ad (182 + 6 * b0))), (1, .int x1), (2, .int x2)] → W p l e (headSpec wsX8_seatAll ({ frames := 3, cells := 0, slots := 0, locals := 66 })).room s m (#[.ref (ad (182 + 6 * b0)), .int a1]) below meth c H locs 0 0 (MQ below (va_Qv (fun (_ : Unit) => True) (fun (_ : Unit) t => wAt (dC, dI) A (wG (cC cy ad τ) ad (182 + 6 * nb) σ9) t) A) (#[.ref (ad (182 + 6 * b0)), .int a1]) s 0 0 A) (F0 m 25 ls []) := by
    intro n
    induction n with
    | zero => intro σ x1 x2 H locs ls h; cases h
    | succ n ih =>
    intro σ x1 x2 H locs ls h hP hD hS hl
    unfold fX8_seatAll_25 at h
    refine lv_iload_n hx hb dX8_seatAll_25 rfl (lv_at hl 2 rfl) ?_
    refine lv_bipush (v := 12) hx hb dX8_seatAll_26 (by decide) ?_
    refine lv_icmp_ge (tgt := 93) hx hb dX8_seatAll_28 (by decide) (fun hcd => ?_) (fun hcd => ?_)
    · have h := cdP hcd h
      refine lv_aload_n hx hb dX8_seatAll_93 rfl (lv_at hl 0 rfl) ?_
      obtain ⟨r10, σ11, hf12, h⟩ := bsS h
      refine ux_callv (va_runV (As := []) (rest := []) ⟨hx, hb, hml, hown, hts⟩ (tX8_linkPlaces l dC dI cy ad τ nb hτ b0 (by omega) σ H.size r10 σ11 hf12) (cwV 0 hts gX8_seatAll_X8_linkPlaces rfl rfl rfl (by decide +kernel) ⟨Nat.le_of_ble_eq_true rfl, Nat.le_of_ble_eq_true rfl⟩) (wp_V hK hN hP hD (va_recv hK hP (ci := 8) (q0 := (182 + 6 * b0)) rfl (wG_of (by omega) (cC_t0 _ _ _ _ _ b0)))) rfl rfl hl.1 rfl (lv_room (Nat.le_of_ble_eq_true rfl)) dX8_seatAll_94 ⟨Nat.le_of_ble_eq_true rfl, Nat.le_of_ble_eq_true rfl⟩) hD hS hA (fun H locs hP hD hS => ?_)
      exact ux_vret hx hb hr h hP hD hS hlocks dX8_seatAll_97
    · have h := cdN hcd h
      refine lv_iconst (v := 0) hx hb dX8_seatAll_31 (by decide) ?_
      refine lv_istore_n (lv' := [(3, .int 0), (0, .ref (ad (182 + 6 * b0))), (1, .int x1), (2, .int x2)]) hx hb dX8_seatAll_32 rfl hl (by decide) rfl (fun ls hl => ?_)
      have hl := lv_sub hl [1, 2, 3, 0] (l' := [(0, .ref (ad (182 + 6 * b0))), (1, .int x1), (2, .int x2), (3, .int 0)]) rfl
      exact w33 _ ih FU σ x1 x2 0 H locs ls h hP hD hS hl
  have w0 : ∀ (σ : S2) (x1 : Int32) (H : Heap) (locs : List Loc) (ls : Array Slot), fX8_seatAll_0 τ b0 σ x1 = some (r0, σ9) → va_P (dC, dI) vwCl (wG (cC cy ad τ) ad (182 + 6 * nb) σ) H → va_D A (wG (cC cy ad τ) ad (182 + 6 * nb) σ) → va_S A s.heap H locs → lv_has ls 4 [(0, .ref (ad (182 + 6 * b0))), (1, .int x1)] → W p l e (headSpec wsX8_seatAll ({ frames := 3, cells := 0, slots := 0, locals := 66 })).room s m (#[.ref (ad (182 + 6 * b0)), .int a1]) below meth c H locs 0 0 (MQ below (va_Qv (fun (_ : Unit) => True) (fun (_ : Unit) t => wAt (dC, dI) A (wG (cC cy ad τ) ad (182 + 6 * nb) σ9) t) A) (#[.ref (ad (182 + 6 * b0)), .int a1]) s 0 0 A) (F0 m 0 ls []) := by
    intro σ x1 H locs ls h hP hD hS hl
    unfold fX8_seatAll_0 at h
    refine lv_aload_n hx hb dX8_seatAll_0 rfl (lv_at hl 0 rfl) ?_
    refine lv_iload_n hx hb dX8_seatAll_1 rfl (lv_at hl 1 rfl) ?_
    refine ux_put (D := (dC, dI)) (ci := 8) (C := RX8) (T := TX8) (M := 13) (fs := (oTB ad (182 + 6 * b0) (σ.1 (182 + 6 * b0)))) hx hb hts (fun _ h9 => List.mem_cons_of_mem _ (List.mem_append_right _ h9)) tyX8 tyX8_ok nmX8 hown hK hP hD hS (182 + 6 * b0) (by omega) (cC_t0 _ _ _ _ _ b0) rfl 1 (by decide) (hts (.fieldLink RX8 15 "SeatsRound$Table" "turn" "I") (List.mem_of_getElem? (i := 1) rfl)) (fun _ h9 => h9) rfl (tyX8_ok 1 (by decide)) rfl rfl (Nat.le_of_ble_eq_true rfl) (oC_t_1 _ _ _ _ _ _ b0) h dX8_seatAll_2 (fun σ13 H locs h hP hD hS => ?_)
    refine lv_aload_n hx hb dX8_seatAll_5 rfl (lv_at hl 0 rfl) ?_
    refine lv_iconst (v := 0) hx hb dX8_seatAll_6 (by decide) ?_
    refine ux_put (D := (dC, dI)) (ci := 8) (C := RX8) (T := TX8) (M := 13) (fs := (oTB ad (182 + 6 * b0) (σ13.1 (182 + 6 * b0)))) hx hb hts (fun _ h9 => List.mem_cons_of_mem _ (List.mem_append_right _ h9)) tyX8 tyX8_ok nmX8 hown hK hP hD hS (182 + 6 * b0) (by omega) (cC_t0 _ _ _ _ _ b0) rfl 5 (by decide) (hts (.fieldLink RX8 27 "SeatsRound$Table" "seats" "I") (List.mem_of_getElem? (i := 2) rfl)) (fun _ h9 => h9) rfl (tyX8_ok 5 (by decide)) rfl rfl (Nat.le_of_ble_eq_true rfl) (oC_t_5 _ _ _ _ _ _ b0) h dX8_seatAll_7 (fun σ14 H locs h hP hD hS => ?_)
    refine lv_aload_n hx hb dX8_seatAll_10 rfl (lv_at hl 0 rfl) ?_
    refine lv_iconst (v := 0) hx hb dX8_seatAll_11 (by decide) ?_
    refine ux_put (D := (dC, dI)) (ci := 8) (C := RX8) (T := TX8) (M := 13) (fs := (oTB ad (182 + 6 * b0) (σ14.1 (182 + 6 * b0)))) hx hb hts (fun _ h9 => List.mem_cons_of_mem _ (List.mem_append_right _ h9)) tyX8 tyX8_ok nmX8 hown hK hP hD hS (182 + 6 * b0) (by omega) (cC_t0 _ _ _ _ _ b0) rfl 7 (by decide) (hts (.fieldLink RX8 33 "SeatsRound$Table" "oddsCounted" "Z") (List.mem_of_getElem? (i := 3) rfl)) (fun _ h9 => h9) rfl (tyX8_ok 7 (by decide)) rfl rfl (Nat.le_of_ble_eq_true rfl) (oC_t_7 _ _ _ _ _ _ b0) h dX8_seatAll_12 (fun σ15 H locs h hP hD hS => ?_)
    refine lv_aload_n hx hb dX8_seatAll_15 rfl (lv_at hl 0 rfl) ?_
    refine ux_get (D := (dC, dI)) (ci := 8) (v := .ref (ad (182 + 6 * b0 + 4))) (C := RX8) (T := TX8) (M := 13) (fs := (oTB ad (182 + 6 * b0) (σ15.1 (182 + 6 * b0)))) hx hb hts (fun _ h9 => List.mem_cons_of_mem _ (List.mem_append_right _ h9)) hown hK hP (182 + 6 * b0) (by omega) (cC_t0 _ _ _ _ _ b0) rfl 11 (by decide) (hts (.fieldLink RX8 48 "SeatsRound$Table" "owner" "[B") (List.mem_of_getElem? (i := 4) rfl)) (fun _ h9 => h9) rfl dX8_seatAll_16 ?_
    refine lv_iconst (v := (-1)) hx hb dX8_seatAll_19 (by decide) ?_
    obtain ⟨r16, σ17, hf18, h⟩ := bsS h
    refine ux_callv (va_runS (As := [.ref (ad (182 + 6 * b0 + 4)), .int (-1)]) (rest := []) ⟨hx, hb, hml, hown, hts⟩ (tJ7_fill_031fb l dC dI cy ad τ nb hτ (182 + 6 * b0 + 4) 1000 (by omega) (fun _ _ => (cC_t4 _ _ _ _ _ b0)) σ15 (-1) H.size r16 σ17 hf18) (va_cwS 2 hts gX8_seatAll_J7_fill_031fb rfl rfl rfl (by decide +kernel) ⟨Nat.le_of_ble_eq_true rfl, Nat.le_of_ble_eq_true rfl⟩) (wp_S hK hN hP hD) rfl rfl hl.1 rfl (lv_room (Nat.le_of_ble_eq_true rfl)) dX8_seatAll_20 ⟨Nat.le_of_ble_eq_true rfl, Nat.le_of_ble_eq_true rfl⟩) hD hS hA (fun H locs hP hD hS => ?_)
    refine lv_iconst (v := 0) hx hb dX8_seatAll_23 (by decide) ?_
    refine lv_istore_n (lv' := [(2, .int 0), (0, .ref (ad (182 + 6 * b0))), (1, .int x1)]) hx hb dX8_seatAll_24 rfl hl (by decide) rfl (fun ls hl => ?_)
    have hl := lv_sub hl [1, 2, 0] (l' := [(0, .ref (ad (182 + 6 * b0))), (1, .int x1), (2, .int 0)]) rfl
    exact w25 FU σ17 x1 0 H locs ls h hP hD hS hl
  intro H locs ls h hP hD hS hl
  exact w0 σ a1 H locs ls h hP hD hS (lv_sub hl [0, 1] rfl)

set_option maxHeartbeats 4000000 in
set_option maxRecDepth 100000 in
theorem tX5_seatSet (l : Launch) (dC : Nat → ClassId) (dI : Nat → Nat → Nat) (cy : Nat → ClassId) (ad : Nat → Nat) (τ nb : Nat) (hτ : τ < nb) (b1 : Nat) (hb1 : b1 < nb) (σ : S2) (a3 : Int32) (sz : Nat) (r0 : Int32) (σ9 : S2) (h : fX5_seatSet τ b1 σ a3 = some (r0, σ9)) : Met l yX5_seatSet wsX5_seatSet ({ frames := 30, cells := 0, slots := 0, locals := 738 }) (va_Pc [.ref (ad 27), .ref (ad (182 + 6 * b1)), .ref (ad 182), .int a3] (wPre (dC, dI) cy (wG (cC cy ad τ) ad (182 + 6 * nb) σ) sz)) (va_Qi (fun (r : Int32) (_ : Unit) => r = r0) (fun (_ : Unit) t => wAt (dC, dI) (va_A (wG (cC cy ad τ) ad (182 + 6 * nb) σ) sz) (wG (cC cy ad τ) ad (182 + 6 * nb) σ9) t) (va_A (wG (cC cy ad τ) ad (182 + 6 * nb) σ) sz)) 0 0 (va_A (wG (cC cy ad τ) ad (182 + 6 * nb) σ) sz) := by
  refine Met.ofW (cc := cX5_seatSet) (maxL := 6) (ret := (some .boolean)) (by decide) rfl ?_
  intro p e s m args below meth c s₁ B hml hv
  obtain ⟨rfl, hsz, hP, hK, hD0, hN⟩ := hv
  have hx := B.exec
  have hb := B.bytes
  have hr := B.returns
  have hts := atoms_spec (ws := wsX5_seatSet) B.pre
  have hown : s.vm.findClass RX5 = some m.cls := findClass_of_methodNamed B.named
  have hlocks := B.notSynchronized
  subst hsz
  have hD := hD0.self (sz := s.heap.size)
  generalize hAe : va_A (wG (cC cy ad τ) ad (182 + 6 * nb) σ) s.heap.size = A at hD ⊢
  have hA : ∀ q : Nat, s.heap.size ≤ q → A q := fun q h => by rw [← hAe]; exact Or.inr h
  have hS : va_S A s.heap s.heap [] := va_S.rf
  have hl := lv_entry ([.ref (ad 27), .ref (ad (182 + 6 * b1)), .ref (ad 182), .int a3]) (n := 6) (Nat.le_of_ble_eq_true rfl)
  rw [lg_entry_eq]
  generalize (lg_sl ([.ref (ad 27), .ref (ad (182 + 6 * b1)), .ref (ad 182), .int a3]) ++ List.replicate (6 - (lg_sl ([.ref (ad 27), .ref (ad (182 + 6 * b1)), .ref (ad 182), .int a3])).length) Slot.unset).toArray = ls at hl ⊢
  have hl : lv_has ls 6 [(0, .ref (ad 27)), (1, .ref (ad (182 + 6 * b1))), (2, .ref (ad 182)), (3, .int a3)] := hl
  unfold fX5_seatSet at h
  clear hAe hD0
  suffices HH : ∀ (H : Heap) (locs : List Loc) (ls : Array Slot), fX5_seatSet_0 τ b1 σ a3 = some (r0, σ9) → va_P (dC, dI) vwCl (wG (cC cy ad τ) ad (182 + 6 * nb) σ) H → va_D A (wG (cC cy ad τ) ad (182 + 6 * nb) σ) → va_S A s.heap H locs → lv_has ls 6 [(0, .ref (ad 27)), (1, .ref (ad (182 + 6 * b1))), (2, .ref (ad 182)), (3, .int a3)] → W p l e (headSpec wsX5_seatSet ({ frames := 30, cells := 0, slots := 0, locals := 738 })).room s m (#[.ref (ad 27), .ref (ad (182 + 6 * b1)), .ref (ad 182), .int a3]) below meth c H locs 0 0 (MQ below (va_Qi (fun (r : Int32) (_ : Unit) => r = r0) (fun (_ : Unit) t => wAt (dC, dI) A (wG (cC cy ad τ) ad (182 + 6 * nb) σ9) t) A) (#[.ref (ad 27), .ref (ad (182 + 6 * b1)), .ref (ad 182), .int a3]) s 0 0 A) (F0 m 0 ls []) from HH s.heap [] ls h hP hD hS hl
  have w123 : ∀ (n : Nat), ∀ (σ : S2) (x3 : Int32) (x4 : Int32) (H : Heap) (locs : List Loc) (ls : Array Slot), fX5_seatSet_123 τ b1 n σ x3 x4 = some (r0, σ9) → va_P (dC, dI) vwCl (wG (cC cy ad τ) ad (182 + 6 * nb) σ) H → va_D A (wG (cC cy ad τ) ad (182 + 6 * nb) σ) → va_S A s.heap H locs → lv_has ls 6 [(0, .ref (ad 27)), (2, .ref (ad 182)), (3, .int x3), (4, .int x4)] → W p l e (headSpec wsX5_seatSet ({ frames := 30, cells := 0, slots := 0, locals := 738 })).room s m (#[.ref (ad 27), .ref (ad (182 + 6 * b1)), .ref (ad 182), .int a3]) below meth c H locs 0 0 (MQ below (va_Qi (fun (r : Int32) (_ : Unit) => r = r0) (fun (_ : Unit) t => wAt (dC, dI) A (wG (cC cy ad τ) ad (182 + 6 * nb) σ9) t) A) (#[.ref (ad 27), .ref (ad (182 + 6 * b1)), .ref (ad 182), .int a3]) s 0 0 A) (F0 m 123 ls []) := by
    intro n
    induction n with
    | zero => intro σ x3 x4 H locs ls h; cases h
    | succ n ih =>
    intro σ x3 x4 H locs ls h hP hD hS hl
    unfold fX5_seatSet_123 at h
    refine lv_iload hx hb dX5_seatSet_123 (lv_at hl 3 rfl) ?_
    refine lv_aload_n hx hb dX5_seatSet_125 rfl (lv_at hl 0 rfl) ?_
    refine ux_get (D := (dC, dI)) (ci := 5) (v := .ref (ad 3)) (C := RX5) (T := TX5) (M := 10) (fs := (oOR ad (σ.1 27))) hx hb hts (fun _ h9 => List.mem_cons_of_mem _ (List.mem_append_left _ (List.mem_append_left _ (List.mem_append_left _ (List.mem_append_left _ (List.mem_append_left _ (List.mem_append_right _ h9))))))) hown hK hP 27 (Nat.lt_of_lt_of_le (Nat.le_of_ble_eq_true rfl : 27 < 182) (Nat.le_add_right _ _)) (cC_27 _ _ _ _ _) rfl 7 (by decide) (hts (.fieldLink RX5 37 "SeatsRound$Orders" "nameList" "LSeatsRound$NameList;") (List.mem_of_getElem? (i := 8) rfl)) (fun _ h9 => h9) rfl dX5_seatSet_126 ?_
    refine ux_get (D := (dC, dI)) (ci := 4) (v := .int (σ.1 3 3)) (C := RX4) (T := TX4) (M := 4) (fs := (oNL ad (σ.1 3))) hx hb hts (fun _ h9 => List.mem_cons_of_mem _ (List.mem_append_left _ (List.mem_append_left _ (List.mem_append_left _ (List.mem_append_right _ h9))))) hown hK hP 3 (Nat.lt_of_lt_of_le (Nat.le_of_ble_eq_true rfl : 3 < 182) (Nat.le_add_right _ _)) (cC_3 _ _ _ _ _) rfl 3 (by decide) (hts (.fieldLink RX5 90 "SeatsRound$NameList" "count" "I") (List.mem_of_getElem? (i := 9) rfl)) (fun _ h9 => h9) rfl dX5_seatSet_129 ?_
    refine lv_icmp_ge (tgt := 178) hx hb dX5_seatSet_132 (by decide) (fun hcd => ?_) (fun hcd => ?_)
    · have h := cdP hcd h
      refine lv_iconst (v := 1) hx hb dX5_seatSet_178 (by decide) ?_
      exact ux_zret hx hb hr rfl h hP hD hS hlocks dX5_seatSet_179
    · have h := cdN hcd h
      refine lv_aload_n hx hb dX5_seatSet_135 rfl (lv_at hl 0 rfl) ?_
      refine ux_get (D := (dC, dI)) (ci := 5) (v := .ref (ad 14)) (C := RX5) (T := TX5) (M := 10) (fs := (oOR ad (σ.1 27))) hx hb hts (fun _ h9 => List.mem_cons_of_mem _ (List.mem_append_left _ (List.mem_append_left _ (List.mem_append_left _ (List.mem_append_left _ (List.mem_append_left _ (List.mem_append_right _ h9))))))) hown hK hP 27 (Nat.lt_of_lt_of_le (Nat.le_of_ble_eq_true rfl : 27 < 182) (Nat.le_add_right _ _)) (cC_27 _ _ _ _ _) rfl 8 (by decide) (hts (.fieldLink RX5 41 "SeatsRound$Orders" "choice" "LSeatsRound$Choice;") (List.mem_of_getElem? (i := 10) rfl)) (fun _ h9 => h9) rfl dX5_seatSet_136 ?_
      refine lv_aload_n hx hb dX5_seatSet_139 rfl (lv_at hl 1 rfl) ?_
      refine lv_aload_n hx hb dX5_seatSet_140 rfl (lv_at hl 0 rfl) ?_
      refine ux_get (D := (dC, dI)) (ci := 5) (v := .ref (ad 3)) (C := RX5) (T := TX5) (M := 10) (fs := (oOR ad (σ.1 27))) hx hb hts (fun _ h9 => List.mem_cons_of_mem _ (List.mem_append_left _ (List.mem_append_left _ (List.mem_append_left _ (List.mem_append_left _ (List.mem_append_left _ (List.mem_append_right _ h9))))))) hown hK hP 27 (Nat.lt_of_lt_of_le (Nat.le_of_ble_eq_true rfl : 27 < 182) (Nat.le_add_right _ _)) (cC_27 _ _ _ _ _) rfl 7 (by decide) (hts (.fieldLink RX5 37 "SeatsRound$Orders" "nameList" "LSeatsRound$NameList;") (List.mem_of_getElem? (i := 8) rfl)) (fun _ h9 => h9) rfl dX5_seatSet_141 ?_
      refine lv_iload hx hb dX5_seatSet_144 (lv_at hl 3 rfl) ?_
      refine lv_aload_n hx hb dX5_seatSet_146 rfl (lv_at hl 1 rfl) ?_
      refine ux_get (D := (dC, dI)) (ci := 8) (v := .int (σ.1 182 1)) (C := RX8) (T := TX8) (M := 13) (fs := (oTB ad (182) (σ.1 (182)))) hx hb hts (fun _ h9 => List.mem_cons_of_mem _ (List.mem_append_left _ (List.mem_append_left _ (List.mem_append_left _ (List.mem_append_left _ (List.mem_append_right _ h9)))))) hown hK hP 182 (by omega) (cC_t0 _ _ _ _ _ 0) rfl 1 (by decide) (hts (.fieldLink RX5 84 "SeatsRound$Table" "turn" "I") (List.mem_of_getElem? (i := 7) rfl)) (fun _ h9 => h9) rfl dX5_seatSet_147 ?_
      change W _ _ _ _ _ _ _ _ _ _ _ _ _ _ _ (F0 m 150 ls [.int (σ.1 182 1), .int x4, .ref (ad 3), .ref (ad 182), .ref (ad 14)])
      obtain ⟨r1, hf2, h⟩ := biS h
      refine ux_calli (va_runV (As := [.int x4, .int (σ.1 182 1)]) (rest := [.ref (ad 182), .ref (ad 14)]) ⟨hx, hb, hml, hown, hts⟩ (tX4_placeOf l dC dI cy ad τ nb hτ σ x4 (σ.1 182 1) H.size r1 hf2) (cwV 2 hts gX5_seatSet_X4_placeOf rfl rfl rfl (by decide +kernel) ⟨Nat.le_of_ble_eq_true rfl, Nat.le_of_ble_eq_true rfl⟩) (wp_V hK hN hP hD (va_recv hK hP (ci := 4) (q0 := 3) rfl (wG_of (Nat.lt_of_lt_of_le (Nat.le_of_ble_eq_true rfl : 3 < 182) (Nat.le_add_right _ _)) (cC_3 _ _ _ _ _)))) rfl rfl hl.1 rfl (lv_room (Nat.le_of_ble_eq_true rfl)) dX5_seatSet_150 ⟨Nat.le_of_ble_eq_true rfl, Nat.le_of_ble_eq_true rfl⟩) hD hS hA (fun H locs hP hD hS => ?_)
      obtain ⟨r3, σ4, hf5, h⟩ := bsS h
      refine ux_callv (va_runV (As := [.ref (ad 182), .int r1]) (rest := []) ⟨hx, hb, hml, hown, hts⟩ (tX1_choose l dC dI cy ad τ nb hτ 0 (by omega) σ r1 H.size r3 σ4 hf5) (cwV 2 hts gX5_seatSet_X1_choose rfl rfl rfl (by decide +kernel) ⟨Nat.le_of_ble_eq_true rfl, Nat.le_of_ble_eq_true rfl⟩) (wp_V hK hN hP hD (va_recv hK hP (ci := 1) (q0 := 14) rfl (wG_of (Nat.lt_of_lt_of_le (Nat.le_of_ble_eq_true rfl : 14 < 182) (Nat.le_add_right _ _)) (cC_14 _ _ _ _ _)))) rfl rfl hl.1 rfl (lv_room (Nat.le_of_ble_eq_true rfl)) dX5_seatSet_153 ⟨Nat.le_of_ble_eq_true rfl, Nat.le_of_ble_eq_true rfl⟩) hD hS hA (fun H locs hP hD hS => ?_)
      refine lv_aload_n hx hb dX5_seatSet_156 rfl (lv_at hl 0 rfl) ?_
      refine ux_get (D := (dC, dI)) (ci := 5) (v := .ref (ad 30)) (C := RX5) (T := TX5) (M := 10) (fs := (oOR ad (σ4.1 27))) hx hb hts (fun _ h9 => List.mem_cons_of_mem _ (List.mem_append_left _ (List.mem_append_left _ (List.mem_append_left _ (List.mem_append_left _ (List.mem_append_left _ (List.mem_append_right _ h9))))))) hown hK hP 27 (Nat.lt_of_lt_of_le (Nat.le_of_ble_eq_true rfl : 27 < 182) (Nat.le_add_right _ _)) (cC_27 _ _ _ _ _) rfl 4 (by decide) (hts (.fieldLink RX5 27 "SeatsRound$Orders" "holders" "[[I") (List.mem_of_getElem? (i := 11) rfl)) (fun _ h9 => h9) rfl dX5_seatSet_157 ?_
      refine lv_iload_n hx hb dX5_seatSet_160 rfl (lv_at hl 2 rfl) ?_
      obtain ⟨hii6, h⟩ := ckS h
      have hri6 := vp_lt hii6
      refine vz_aldg hx hb hK hP 30 6 (wG_of (Nat.lt_of_lt_of_le (Nat.le_of_ble_eq_true rfl : 30 < 182) (Nat.le_add_right _ _)) (cC_30 _ _ _ _ _)) rfl hii6 (if_pos hri6) dX5_seatSet_161 ?_
      refine lv_iload hx hb dX5_seatSet_162 (lv_at hl 3 rfl) ?_
      refine lv_aload_n hx hb dX5_seatSet_164 rfl (lv_at hl 0 rfl) ?_
      refine ux_get (D := (dC, dI)) (ci := 5) (v := .ref (ad 14)) (C := RX5) (T := TX5) (M := 10) (fs := (oOR ad (σ4.1 27))) hx hb hts (fun _ h9 => List.mem_cons_of_mem _ (List.mem_append_left _ (List.mem_append_left _ (List.mem_append_left _ (List.mem_append_left _ (List.mem_append_left _ (List.mem_append_right _ h9))))))) hown hK hP 27 (Nat.lt_of_lt_of_le (Nat.le_of_ble_eq_true rfl : 27 < 182) (Nat.le_add_right _ _)) (cC_27 _ _ _ _ _) rfl 8 (by decide) (hts (.fieldLink RX5 41 "SeatsRound$Orders" "choice" "LSeatsRound$Choice;") (List.mem_of_getElem? (i := 10) rfl)) (fun _ h9 => h9) rfl dX5_seatSet_165 ?_
      refine ux_get (D := (dC, dI)) (ci := 1) (v := .int (σ4.1 14 4)) (C := RX1) (T := TX1) (M := 9) (fs := (oCH ad (σ4.1 14))) hx hb hts (fun _ h9 => List.mem_cons_of_mem _ (List.mem_append_left _ (List.mem_append_left _ (List.mem_append_right _ h9)))) hown hK hP 14 (Nat.lt_of_lt_of_le (Nat.le_of_ble_eq_true rfl : 14 < 182) (Nat.le_add_right _ _)) (cC_14 _ _ _ _ _) rfl 4 (by decide) (hts (.fieldLink RX5 105 "SeatsRound$Choice" "chosenBits" "I") (List.mem_of_getElem? (i := 12) rfl)) (fun _ h9 => h9) rfl dX5_seatSet_168 ?_
      refine ux_iast hx hb hK hP hD hS (144 + Int32.toNatClampNeg x3) 0 (by omega) (fun _ => (cC_r6 _ _ _ _ _ _ (by omega))) rfl h dX5_seatSet_171 (fun σ7 H locs h hP hD hS => ?_)
      obtain ⟨v8, ev8⟩ : ∃ y : Int32, y = x4 + 1 := ⟨_, rfl⟩
      have h := nmS h ev8
      refine lv_iinc (v := v8) (lv' := [(4, .int v8), (0, .ref (ad 27)), (2, .ref (ad 182)), (3, .int x3)]) hx hb dX5_seatSet_172 hl (k := 3) rfl (by rw [ev8]; rfl) (by decide) rfl (fun ls hl => ?_)
      have hl := lv_sub hl [1, 2, 3, 0] (l' := [(0, .ref (ad 27)), (2, .ref (ad 182)), (3, .int x3), (4, .int v8)]) rfl
      refine lv_goto (tgt := 123) hx hb dX5_seatSet_175 (by decide) ?_
      exact ih σ7 x3 v8 H locs ls h hP hD hS hl
  have w84 : ∀ (k8 : S2 → Int32 → Int32 → Option (Int32 × S2)) (hk8 : ∀ (σ : S2) (x3 : Int32) (x4 : Int32) (H : Heap) (locs : List Loc) (ls : Array Slot), k8 σ x3 x4 = some (r0, σ9) → va_P (dC, dI) vwCl (wG (cC cy ad τ) ad (182 + 6 * nb) σ) H → va_D A (wG (cC cy ad τ) ad (182 + 6 * nb) σ) → va_S A s.heap H locs → lv_has ls 6 [(0, .ref (ad 27)), (1, .ref (ad (182 + 6 * b1))), (2, .ref (ad 182)), (3, .int x3), (4, .int x4)] → W p l e (headSpec wsX5_seatSet ({ frames := 30, cells := 0, slots := 0, locals := 738 })).room s m (#[.ref (ad 27), .ref (ad (182 + 6 * b1)), .ref (ad 182), .int a3]) below meth c H locs 0 0 (MQ below (va_Qi (fun (r : Int32) (_ : Unit) => r = r0) (fun (_ : Unit) t => wAt (dC, dI) A (wG (cC cy ad τ) ad (182 + 6 * nb) σ9) t) A) (#[.ref (ad 27), .ref (ad (182 + 6 * b1)), .ref (ad 182), .int a3]) s 0 0 A) (F0 m 8 ls [])) , ∀ (σ : S2) (x3 : Int32) (x4 : Int32) (H : Heap) (locs : List Loc) (ls : Array Slot), fX5_seatSet_84 τ b1 k8 σ x3 x4 = some (r0, σ9) → va_P (dC, dI) vwCl (wG (cC cy ad τ) ad (182 + 6 * nb) σ) H → va_D A (wG (cC cy ad τ) ad (182 + 6 * nb) σ) → va_S A s.heap H locs → lv_has ls 6 [(0, .ref (ad 27)), (1, .ref (ad (182 + 6 * b1))), (2, .ref (ad 182)), (3, .int x3), (4, .int x4)] → W p l e (headSpec wsX5_seatSet ({ frames := 30, cells := 0, slots := 0, locals := 738 })).room s m (#[.ref (ad 27), .ref (ad (182 + 6 * b1)), .ref (ad 182), .int a3]) below meth c H locs 0 0 (MQ below (va_Qi (fun (r : Int32) (_ : Unit) => r = r0) (fun (_ : Unit) t => wAt (dC, dI) A (wG (cC cy ad τ) ad (182 + 6 * nb) σ9) t) A) (#[.ref (ad 27), .ref (ad (182 + 6 * b1)), .ref (ad 182), .int a3]) s 0 0 A) (F0 m 84 ls []) := by
    intro k8 hk8 σ x3 x4 H locs ls h hP hD hS hl
    unfold fX5_seatSet_84 at h
    obtain ⟨v9, ev9⟩ : ∃ y : Int32, y = x4 + 1 := ⟨_, rfl⟩
    have h := nmS h ev9
    refine lv_iinc (v := v9) (lv' := [(4, .int v9), (0, .ref (ad 27)), (1, .ref (ad (182 + 6 * b1))), (2, .ref (ad 182)), (3, .int x3)]) hx hb dX5_seatSet_84 hl (k := 4) rfl (by rw [ev9]; rfl) (by decide) rfl (fun ls hl => ?_)
    have hl := lv_sub hl [1, 2, 3, 4, 0] (l' := [(0, .ref (ad 27)), (1, .ref (ad (182 + 6 * b1))), (2, .ref (ad 182)), (3, .int x3), (4, .int v9)]) rfl
    refine lv_goto (tgt := 8) hx hb dX5_seatSet_87 (by decide) ?_
    exact hk8 σ x3 v9 H locs ls h hP hD hS hl
  have w83 : ∀ (k8 : S2 → Int32 → Int32 → Option (Int32 × S2)) (hk8 : ∀ (σ : S2) (x3 : Int32) (x4 : Int32) (H : Heap) (locs : List Loc) (ls : Array Slot), k8 σ x3 x4 = some (r0, σ9) → va_P (dC, dI) vwCl (wG (cC cy ad τ) ad (182 + 6 * nb) σ) H → va_D A (wG (cC cy ad τ) ad (182 + 6 * nb) σ) → va_S A s.heap H locs → lv_has ls 6 [(0, .ref (ad 27)), (1, .ref (ad (182 + 6 * b1))), (2, .ref (ad 182)), (3, .int x3), (4, .int x4)] → W p l e (headSpec wsX5_seatSet ({ frames := 30, cells := 0, slots := 0, locals := 738 })).room s m (#[.ref (ad 27), .ref (ad (182 + 6 * b1)), .ref (ad 182), .int a3]) below meth c H locs 0 0 (MQ below (va_Qi (fun (r : Int32) (_ : Unit) => r = r0) (fun (_ : Unit) t => wAt (dC, dI) A (wG (cC cy ad τ) ad (182 + 6 * nb) σ9) t) A) (#[.ref (ad 27), .ref (ad (182 + 6 * b1)), .ref (ad 182), .int a3]) s 0 0 A) (F0 m 8 ls [])) , ∀ (σ : S2) (x3 : Int32) (x4 : Int32) (s0 : Int32) (s1 : Int32) (H : Heap) (locs : List Loc) (ls : Array Slot), fX5_seatSet_83 τ b1 k8 σ x3 x4 s0 s1 = some (r0, σ9) → va_P (dC, dI) vwCl (wG (cC cy ad τ) ad (182 + 6 * nb) σ) H → va_D A (wG (cC cy ad τ) ad (182 + 6 * nb) σ) → va_S A s.heap H locs → lv_has ls 6 [(0, .ref (ad 27)), (1, .ref (ad (182 + 6 * b1))), (2, .ref (ad 182)), (3, .int x3), (4, .int x4)] → W p l e (headSpec wsX5_seatSet ({ frames := 30, cells := 0, slots := 0, locals := 738 })).room s m (#[.ref (ad 27), .ref (ad (182 + 6 * b1)), .ref (ad 182), .int a3]) below meth c H locs 0 0 (MQ below (va_Qi (fun (r : Int32) (_ : Unit) => r = r0) (fun (_ : Unit) t => wAt (dC, dI) A (wG (cC cy ad τ) ad (182 + 6 * nb) σ9) t) A) (#[.ref (ad 27), .ref (ad (182 + 6 * b1)), .ref (ad 182), .int a3]) s 0 0 A) (F0 m 83 ls [.int s0, .int s1, .ref (ad 183)]) := by
    intro k8 hk8 σ x3 x4 s0 s1 H locs ls h hP hD hS hl
    unfold fX5_seatSet_83 at h
    refine ux_iast hx hb hK hP hD hS 183 0 (by omega) (fun _ => (cC_t1 _ _ _ _ _ 0)) rfl h dX5_seatSet_83 (fun σ10 H locs h hP hD hS => ?_)
    exact w84 _ hk8 σ10 x3 x4 H locs ls h hP hD hS hl
  have w8 : ∀ (n : Nat), ∀ (σ : S2) (x3 : Int32) (x4 : Int32) (H : Heap) (locs : List Loc) (ls : Array Slot), fX5_seatSet_8 τ b1 n σ x3 x4 = some (r0, σ9) → va_P (dC, dI) vwCl (wG (cC cy ad τ) ad (182 + 6 * nb) σ) H → va_D A (wG (cC cy ad τ) ad (182 + 6 * nb) σ) → va_S A s.heap H locs → lv_has ls 6 [(0, .ref (ad 27)), (1, .ref (ad (182 + 6 * b1))), (2, .ref (ad 182)), (3, .int x3), (4, .int x4)] → W p l e (headSpec wsX5_seatSet ({ frames := 30, cells := 0, slots := 0, locals := 738 })).room s m (#[.ref (ad 27), .ref (ad (182 + 6 * b1)), .ref (ad 182), .int a3]) below meth c H locs 0 0 (MQ below (va_Qi (fun (r : Int32) (_ : Unit) => r = r0) (fun (_ : Unit) t => wAt (dC, dI) A (wG (cC cy ad τ) ad (182 + 6 * nb) σ9) t) A) (#[.ref (ad 27), .ref (ad (182 + 6 * b1)), .ref (ad 182), .int a3]) s 0 0 A) (F0 m 8 ls []) := by
    intro n
    induction n with
    | zero => intro σ x3 x4 H locs ls h; cases h
    | succ n ih =>
    intro σ x3 x4 H locs ls h hP hD hS hl
    unfold fX5_seatSet_8 at h
    refine lv_iload hx hb dX5_seatSet_8 (lv_at hl 4 rfl) ?_
    refine lv_aload_n hx hb dX5_seatSet_10 rfl (lv_at hl 0 rfl) ?_
    refine ux_get (D := (dC, dI)) (ci := 5) (v := .int (σ.1 27 1)) (C := RX5) (T := TX5) (M := 10) (fs := (oOR ad (σ.1 27))) hx hb hts (fun _ h9 => List.mem_cons_of_mem _ (List.mem_append_left _ (List.mem_append_left _ (List.mem_append_left _ (List.mem_append_left _ (List.mem_append_left _ (List.mem_append_right _ h9))))))) hown hK hP 27 (Nat.lt_of_lt_of_le (Nat.le_of_ble_eq_true rfl : 27 < 182) (Nat.le_add_right _ _)) (cC_27 _ _ _ _ _) rfl 1 (by decide) (hts (.fieldLink RX5 15 "SeatsRound$Orders" "toldCount" "I") (List.mem_of_getElem? (i := 1) rfl)) (fun _ h9 => h9) rfl dX5_seatSet_11 ?_
    refine lv_icmp_ge (tgt := 90) hx hb dX5_seatSet_14 (by decide) (fun hcd => ?_) (fun hcd => ?_)
    · have h := cdP hcd h
      refine lv_aload_n hx hb dX5_seatSet_90 rfl (lv_at hl 2 rfl) ?_
      refine ux_get (D := (dC, dI)) (ci := 8) (v := .int (σ.1 182 0)) (C := RX8) (T := TX8) (M := 13) (fs := (oTB ad (182) (σ.1 (182)))) hx hb hts (fun _ h9 => List.mem_cons_of_mem _ (List.mem_append_left _ (List.mem_append_left _ (List.mem_append_left _ (List.mem_append_left _ (List.mem_append_right _ h9)))))) hown hK hP 182 (by omega) (cC_t0 _ _ _ _ _ 0) rfl 0 (by decide) (hts (.fieldLink RX5 67 "SeatsRound$Table" "members" "I") (List.mem_of_getElem? (i := 3) rfl)) (fun _ h9 => h9) rfl dX5_seatSet_91 ?_
      refine lv_if_ne (tgt := 99) hx hb dX5_seatSet_94 (by decide) (fun hcd => ?_) (fun hcd => ?_)
      · have h := cdN hcd h
        refine lv_aload_n hx hb dX5_seatSet_99 rfl (lv_at hl 0 rfl) ?_
        refine ux_get (D := (dC, dI)) (ci := 5) (v := .ref (ad 13)) (C := RX5) (T := TX5) (M := 10) (fs := (oOR ad (σ.1 27))) hx hb hts (fun _ h9 => List.mem_cons_of_mem _ (List.mem_append_left _ (List.mem_append_left _ (List.mem_append_left _ (List.mem_append_left _ (List.mem_append_left _ (List.mem_append_right _ h9))))))) hown hK hP 27 (Nat.lt_of_lt_of_le (Nat.le_of_ble_eq_true rfl : 27 < 182) (Nat.le_add_right _ _)) (cC_27 _ _ _ _ _) rfl 9 (by decide) (hts (.fieldLink RX5 45 "SeatsRound$Orders" "law" "LSeatsRound$Law;") (List.mem_of_getElem? (i := 6) rfl)) (fun _ h9 => h9) rfl dX5_seatSet_100 ?_
        refine lv_aload_n hx hb dX5_seatSet_103 rfl (lv_at hl 2 rfl) ?_
        refine lv_aload_n hx hb dX5_seatSet_104 rfl (lv_at hl 0 rfl) ?_
        refine ux_get (D := (dC, dI)) (ci := 5) (v := .ref (ad 7)) (C := RX5) (T := TX5) (M := 10) (fs := (oOR ad (σ.1 27))) hx hb hts (fun _ h9 => List.mem_cons_of_mem _ (List.mem_append_left _ (List.mem_append_left _ (List.mem_append_left _ (List.mem_append_left _ (List.mem_append_left _ (List.mem_append_right _ h9))))))) hown hK hP 27 (Nat.lt_of_lt_of_le (Nat.le_of_ble_eq_true rfl : 27 < 182) (Nat.le_add_right _ _)) (cC_27 _ _ _ _ _) rfl 6 (by decide) (hts (.fieldLink RX5 33 "SeatsRound$Orders" "keepers" "LSeatsRound$Keepers;") (List.mem_of_getElem? (i := 5) rfl)) (fun _ h9 => h9) rfl dX5_seatSet_105 ?_
        obtain ⟨r11, σ12, hf13, h⟩ := bsS h
        refine ux_calli (va_runV (As := [.ref (ad 182), .ref (ad 7)]) (rest := []) ⟨hx, hb, hml, hown, hts⟩ (tX3_workOut l dC dI cy ad τ nb hτ σ H.size r11 σ12 hf13) (cwV 2 hts gX5_seatSet_X3_workOut rfl rfl rfl (by decide +kernel) ⟨Nat.le_of_ble_eq_true rfl, Nat.le_of_ble_eq_true rfl⟩) (wp_V hK hN hP hD (va_recv hK hP (ci := 3) (q0 := 13) rfl (wG_of (Nat.lt_of_lt_of_le (Nat.le_of_ble_eq_true rfl : 13 < 182) (Nat.le_add_right _ _)) (cC_13 _ _ _ _ _)))) rfl rfl hl.1 rfl (lv_room (Nat.le_of_ble_eq_true rfl)) dX5_seatSet_108 ⟨Nat.le_of_ble_eq_true rfl, Nat.le_of_ble_eq_true rfl⟩) hD hS hA (fun H locs hP hD hS => ?_)
        refine lv_pop hx hb dX5_seatSet_111 rfl ?_
        refine lv_aload_n hx hb dX5_seatSet_112 rfl (lv_at hl 2 rfl) ?_
        refine lv_aload_n hx hb dX5_seatSet_113 rfl (lv_at hl 1 rfl) ?_
        refine ux_get (D := (dC, dI)) (ci := 8) (v := .int (σ12.1 (182 + 6 * b1) 1)) (C := RX8) (T := TX8) (M := 13) (fs := (oTB ad (182 + 6 * b1) (σ12.1 (182 + 6 * b1)))) hx hb hts (fun _ h9 => List.mem_cons_of_mem _ (List.mem_append_left _ (List.mem_append_left _ (List.mem_append_left _ (List.mem_append_left _ (List.mem_append_right _ h9)))))) hown hK hP (182 + 6 * b1) (by omega) (cC_t0 _ _ _ _ _ b1) rfl 1 (by decide) (hts (.fieldLink RX5 84 "SeatsRound$Table" "turn" "I") (List.mem_of_getElem? (i := 7) rfl)) (fun _ h9 => h9) rfl dX5_seatSet_114 ?_
        obtain ⟨r14, σ15, hf16, h⟩ := bsS h
        refine ux_callv (va_runV (As := [.int (σ12.1 (182 + 6 * b1) 1)]) (rest := []) ⟨hx, hb, hml, hown, hts⟩ (tX8_seatAll l dC dI cy ad τ nb hτ 0 (by omega) σ12 (σ12.1 (182 + 6 * b1) 1) H.size r14 σ15 hf16) (cwV 1 hts gX5_seatSet_X8_seatAll rfl rfl rfl (by decide +kernel) ⟨Nat.le_of_ble_eq_true rfl, Nat.le_of_ble_eq_true rfl⟩) (wp_V hK hN hP hD (va_recv hK hP (ci := 8) (q0 := 182) rfl (wG_of (by omega) (cC_t0 _ _ _ _ _ 0)))) rfl rfl hl.1 rfl (lv_room (Nat.le_of_ble_eq_true rfl)) dX5_seatSet_117 ⟨Nat.le_of_ble_eq_true rfl, Nat.le_of_ble_eq_true rfl⟩) hD hS hA (fun H locs hP hD hS => ?_)
        refine lv_iconst (v := 0) hx hb dX5_seatSet_120 (by decide) ?_
        refine lv_istore (lv' := [(4, .int 0), (0, .ref (ad 27)), (1, .ref (ad (182 + 6 * b1))), (2, .ref (ad 182)), (3, .int x3)]) hx hb dX5_seatSet_121 hl (by decide) rfl (fun ls hl => ?_)
        have hl := lv_sub hl [1, 2, 3, 4, 0] (l' := [(0, .ref (ad 27)), (1, .ref (ad (182 + 6 * b1))), (2, .ref (ad 182)), (3, .int x3), (4, .int 0)]) rfl
        exact w123 FU σ15 x3 0 H locs ls h hP hD hS (lv_sub hl [0, 2, 3, 4] rfl)
      · have h := cdP hcd h
        refine lv_iconst (v := 0) hx hb dX5_seatSet_97 (by decide) ?_
        exact ux_zret hx hb hr rfl h hP hD hS hlocks dX5_seatSet_98
    · have h := cdN hcd h
      refine lv_iload_n hx hb dX5_seatSet_17 rfl (lv_at hl 3 rfl) ?_
      refine lv_iload hx hb dX5_seatSet_18 (lv_at hl 4 rfl) ?_
      refine lv_ishr hx hb dX5_seatSet_20 ?_
      refine lv_iconst (v := 1) hx hb dX5_seatSet_21 (by decide) ?_
      refine lv_iand hx hb dX5_seatSet_22 ?_
      refine lv_if_ne (tgt := 29) hx hb dX5_seatSet_23 (by decide) (fun hcd => ?_) (fun hcd => ?_)
      · have h := cdN hcd h
        refine lv_aload_n hx hb dX5_seatSet_29 rfl (lv_at hl 0 rfl) ?_
        refine ux_get (D := (dC, dI)) (ci := 5) (v := .ref (ad 28)) (C := RX5) (T := TX5) (M := 10) (fs := (oOR ad (σ.1 27))) hx hb hts (fun _ h9 => List.mem_cons_of_mem _ (List.mem_append_left _ (List.mem_append_left _ (List.mem_append_left _ (List.mem_append_left _ (List.mem_append_left _ (List.mem_append_right _ h9))))))) hown hK hP 27 (Nat.lt_of_lt_of_le (Nat.le_of_ble_eq_true rfl : 27 < 182) (Nat.le_add_right _ _)) (cC_27 _ _ _ _ _) rfl 0 (by decide) (hts (.fieldLink RX5 9 "SeatsRound$Orders" "told" "[I") (List.mem_of_getElem? (i := 2) rfl)) (fun _ h9 => h9) rfl dX5_seatSet_30 ?_
        refine lv_iload hx hb dX5_seatSet_33 (lv_at hl 4 rfl) ?_
        refine ux_iald hx hb hK hP 28 0 (Nat.lt_of_lt_of_le (Nat.le_of_ble_eq_true rfl : 28 < 182) (Nat.le_add_right _ _)) (cC_28 _ _ _ _ _) rfl h dX5_seatSet_35 (fun v17 h => ?_)
        refine lv_istore (lv' := [(5, .int v17), (0, .ref (ad 27)), (1, .ref (ad (182 + 6 * b1))), (2, .ref (ad 182)), (3, .int x3), (4, .int x4)]) hx hb dX5_seatSet_36 hl (by decide) rfl (fun ls hl => ?_)
        have hl := lv_sub hl [1, 2, 3, 4, 5, 0] (l' := [(0, .ref (ad 27)), (1, .ref (ad (182 + 6 * b1))), (2, .ref (ad 182)), (3, .int x3), (4, .int x4), (5, .int v17)]) rfl
        refine lv_aload_n hx hb dX5_seatSet_38 rfl (lv_at hl 2 rfl) ?_
        refine lv_dup hx hb dX5_seatSet_39 rfl ?_
        refine ux_get (D := (dC, dI)) (ci := 8) (v := .int (σ.1 182 0)) (C := RX8) (T := TX8) (M := 13) (fs := (oTB ad (182) (σ.1 (182)))) hx hb hts (fun _ h9 => List.mem_cons_of_mem _ (List.mem_append_left _ (List.mem_append_left _ (List.mem_append_left _ (List.mem_append_left _ (List.mem_append_right _ h9)))))) hown hK hP 182 (by omega) (cC_t0 _ _ _ _ _ 0) rfl 0 (by decide) (hts (.fieldLink RX5 67 "SeatsRound$Table" "members" "I") (List.mem_of_getElem? (i := 3) rfl)) (fun _ h9 => h9) rfl dX5_seatSet_40 ?_
        refine lv_iconst (v := 1) hx hb dX5_seatSet_43 (by decide) ?_
        refine lv_iload hx hb dX5_seatSet_44 (lv_at hl 5 rfl) ?_
        refine lv_ishl hx hb dX5_seatSet_46 ?_
        refine lv_ixor hx hb dX5_seatSet_47 ?_
        change W _ _ _ _ _ _ _ _ _ _ _ _ _ _ _ (F0 m 48 ls [.int ((σ.1 182 0) ^^^ (1 <<< (v17 &&& 31))), .ref (ad 182)])
        refine ux_put (D := (dC, dI)) (ci := 8) (C := RX8) (T := TX8) (M := 13) (fs := (oTB ad (182) (σ.1 (182)))) hx hb hts (fun _ h9 => List.mem_cons_of_mem _ (List.mem_append_left _ (List.mem_append_left _ (List.mem_append_left _ (List.mem_append_left _ (List.mem_append_right _ h9)))))) tyX8 tyX8_ok nmX8 hown hK hP hD hS 182 (by omega) (cC_t0 _ _ _ _ _ 0) rfl 0 (by decide) (hts (.fieldLink RX5 67 "SeatsRound$Table" "members" "I") (List.mem_of_getElem? (i := 3) rfl)) (fun _ h9 => h9) rfl (tyX8_ok 0 (by decide)) rfl rfl (Nat.le_of_ble_eq_true rfl) (oC_t_0 _ _ _ _ _ _ 0) h dX5_seatSet_48 (fun σ18 H locs h hP hD hS => ?_)
        refine lv_aload_n hx hb dX5_seatSet_51 rfl (lv_at hl 2 rfl) ?_
        refine ux_get (D := (dC, dI)) (ci := 8) (v := .ref (ad 183)) (C := RX8) (T := TX8) (M := 13) (fs := (oTB ad (182) (σ18.1 (182)))) hx hb hts (fun _ h9 => List.mem_cons_of_mem _ (List.mem_append_left _ (List.mem_append_left _ (List.mem_append_left _ (List.mem_append_left _ (List.mem_append_right _ h9)))))) hown hK hP 182 (by omega) (cC_t0 _ _ _ _ _ 0) rfl 8 (by decide) (hts (.fieldLink RX5 70 "SeatsRound$Table" "weight" "[I") (List.mem_of_getElem? (i := 4) rfl)) (fun _ h9 => h9) rfl dX5_seatSet_52 ?_
        refine lv_iload hx hb dX5_seatSet_55 (lv_at hl 5 rfl) ?_
        refine lv_aload_n hx hb dX5_seatSet_57 rfl (lv_at hl 2 rfl) ?_
        refine ux_get (D := (dC, dI)) (ci := 8) (v := .int (σ18.1 182 0)) (C := RX8) (T := TX8) (M := 13) (fs := (oTB ad (182) (σ18.1 (182)))) hx hb hts (fun _ h9 => List.mem_cons_of_mem _ (List.mem_append_left _ (List.mem_append_left _ (List.mem_append_left _ (List.mem_append_left _ (List.mem_append_right _ h9)))))) hown hK hP 182 (by omega) (cC_t0 _ _ _ _ _ 0) rfl 0 (by decide) (hts (.fieldLink RX5 67 "SeatsRound$Table" "members" "I") (List.mem_of_getElem? (i := 3) rfl)) (fun _ h9 => h9) rfl dX5_seatSet_58 ?_
        refine lv_iload hx hb dX5_seatSet_61 (lv_at hl 5 rfl) ?_
        refine lv_ishr hx hb dX5_seatSet_63 ?_
        refine lv_iconst (v := 1) hx hb dX5_seatSet_64 (by decide) ?_
        change W _ _ _ _ _ _ _ _ _ _ _ _ _ _ _ (F0 m 65 ls [.int 1, .int ((σ18.1 182 0) >>> (v17 &&& 31)), .int v17, .ref (ad 183)])
        refine lv_iand hx hb dX5_seatSet_65 ?_
        refine lv_iconst (v := 1) hx hb dX5_seatSet_66 (by decide) ?_
        refine lv_icmp_ne (tgt := 82) hx hb dX5_seatSet_67 (by decide) (fun hcd => ?_) (fun hcd => ?_)
        · have h := cdN hcd h
          refine lv_iconst (v := 0) hx hb dX5_seatSet_82 (by decide) ?_
          exact w83 _ ih σ18 x3 x4 0 v17 H locs ls h hP hD hS (lv_sub hl [0, 1, 2, 3, 4] rfl)
        · have h := cdP hcd h
          refine lv_aload_n hx hb dX5_seatSet_70 rfl (lv_at hl 0 rfl) ?_
          refine ux_get (D := (dC, dI)) (ci := 5) (v := .ref (ad 7)) (C := RX5) (T := TX5) (M := 10) (fs := (oOR ad (σ18.1 27))) hx hb hts (fun _ h9 => List.mem_cons_of_mem _ (List.mem_append_left _ (List.mem_append_left _ (List.mem_append_left _ (List.mem_append_left _ (List.mem_append_left _ (List.mem_append_right _ h9))))))) hown hK hP 27 (Nat.lt_of_lt_of_le (Nat.le_of_ble_eq_true rfl : 27 < 182) (Nat.le_add_right _ _)) (cC_27 _ _ _ _ _) rfl 6 (by decide) (hts (.fieldLink RX5 33 "SeatsRound$Orders" "keepers" "LSeatsRound$Keepers;") (List.mem_of_getElem? (i := 5) rfl)) (fun _ h9 => h9) rfl dX5_seatSet_71 ?_
          refine lv_iload hx hb dX5_seatSet_74 (lv_at hl 5 rfl) ?_
          obtain ⟨r19, hf20, h⟩ := biS h
          refine ux_calli (va_runV (As := [.int v17]) (rest := [.int v17, .ref (ad 183)]) ⟨hx, hb, hml, hown, hts⟩ (tX2_counting l dC dI cy ad τ nb hτ σ18 v17 H.size r19 hf20) (cwV 1 hts gX5_seatSet_X2_counting rfl rfl rfl (by decide +kernel) ⟨Nat.le_of_ble_eq_true rfl, Nat.le_of_ble_eq_true rfl⟩) (wp_V hK hN hP hD (va_recv hK hP (ci := 2) (q0 := 7) rfl (wG_of (Nat.lt_of_lt_of_le (Nat.le_of_ble_eq_true rfl : 7 < 182) (Nat.le_add_right _ _)) (cC_7 _ _ _ _ _)))) rfl rfl hl.1 rfl (lv_room (Nat.le_of_ble_eq_true rfl)) dX5_seatSet_76 ⟨Nat.le_of_ble_eq_true rfl, Nat.le_of_ble_eq_true rfl⟩) hD hS hA (fun H locs hP hD hS => ?_)
          refine lv_goto (tgt := 83) hx hb dX5_seatSet_79 (by decide) ?_
          exact w83 _ ih σ18 x3 x4 r19 v17 H locs ls h hP hD hS (lv_sub hl [0, 1, 2, 3, 4] rfl)
      · have h := cdP hcd h
        refine lv_goto (tgt := 84) hx hb dX5_seatSet_26 (by decide) ?_
        exact w84 _ ih σ x3 x4 H locs ls h hP hD hS hl
  have w0 : ∀ (σ : S2) (x3 : Int32) (H : Heap) (locs : List Loc) (ls : Array Slot), fX5_seatSet_0 τ b1 σ x3 = some (r0, σ9) → va_P (dC, dI) vwCl (wG (cC cy ad τ) ad (182 + 6 * nb) σ) H → va_D A (wG (cC cy ad τ) ad (182 + 6 * nb) σ) → va_S A s.heap H locs → lv_has ls 6 [(0, .ref (ad 27)), (1, .ref (ad (182 + 6 * b1))), (2, .ref (ad 182)), (3, .int x3)] → W p l e (headSpec wsX5_seatSet ({ frames := 30, cells := 0, slots := 0, locals := 738 })).room s m (#[.ref (ad 27), .ref (ad (182 + 6 * b1)), .ref (ad 182), .int a3]) below meth c H locs 0 0 (MQ below (va_Qi (fun (r : Int32) (_ : Unit) => r = r0) (fun (_ : Unit) t => wAt (dC, dI) A (wG (cC cy ad τ) ad (182 + 6 * nb) σ9) t) A) (#[.ref (ad 27), .ref (ad (182 + 6 * b1)), .ref (ad 182), .int a3]) s 0 0 A) (F0 m 0 ls []) := by
    intro σ x3 H locs ls h hP hD hS hl
    unfold fX5_seatSet_0 at h
    refine lv_aload_n hx hb dX5_seatSet_0 rfl (lv_at hl 2 rfl) ?_
    refine lv_aload_n hx hb dX5_seatSet_1 rfl (lv_at hl 1 rfl) ?_
    obtain ⟨r21, σ22, hf23, h⟩ := bsS h
    refine ux_callv (va_runV (As := [.ref (ad (182 + 6 * b1))]) (rest := []) ⟨hx, hb, hml, hown, hts⟩ (tX8_takeAll l dC dI cy ad τ nb hτ 0 (by omega) b1 (by omega) σ H.size r21 σ22 hf23) (cwV 1 hts gX5_seatSet_X8_takeAll rfl rfl rfl (by decide +kernel) ⟨Nat.le_of_ble_eq_true rfl, Nat.le_of_ble_eq_true rfl⟩) (wp_V hK hN hP hD (va_recv hK hP (ci := 8) (q0 := 182) rfl (wG_of (by omega) (cC_t0 _ _ _ _ _ 0)))) rfl rfl hl.1 rfl (lv_room (Nat.le_of_ble_eq_true rfl)) dX5_seatSet_2 ⟨Nat.le_of_ble_eq_true rfl, Nat.le_of_ble_eq_true rfl⟩) hD hS hA (fun H locs hP hD hS => ?_)
    refine lv_iconst (v := 0) hx hb dX5_seatSet_5 (by decide) ?_
    refine lv_istore (lv' := [(4, .int 0), (0, .ref (ad 27)), (1, .ref (ad (182 + 6 * b1))), (2, .ref (ad 182)), (3, .int x3)]) hx hb dX5_seatSet_6 hl (by decide) rfl (fun ls hl => ?_)
    have hl := lv_sub hl [1, 2, 3, 4, 0] (l' := [(0, .ref (ad 27)), (1, .ref (ad (182 + 6 * b1))), (2, .ref (ad 182)), (3, .int x3), (4, .int 0)]) rfl
    exact w8 FU σ22 x3 0 H locs ls h hP hD hS hl
  intro H locs ls h hP hD hS hl
  exact w0 σ a3 H locs ls h hP hD hS (lv_sub hl [0, 1, 2, 3] rfl)

set_option maxHeartbeats 4000000 in
set_option maxRecDepth 100000 in
theorem tX5_sumOver (l : Launch) (dC : Nat → ClassId) (dI : Nat → Nat → Nat) (cy : Nat → ClassId) (ad : Nat → Nat) (τ nb : Nat) (hτ : τ < nb) (σ : S2) (a1 : Int32) (a2 : Int32) (sz : Nat) (r0 : Int32) (h : fX5_sumOver τ σ a1 a2 = some r0) : Met l yX5_sumOver wsX5_sumOver ({ frames := 2, cells := 0, slots := 0, locals := 43 }) (va_Pc [.ref (ad 27), .int a1, .int a2] (wPre (dC, dI) cy (wG (cC cy ad τ) ad (182 + 6 * nb) σ) sz)) (va_Qi (fun (r : Int32) (_ : Unit) => r = r0) (fun (_ : Unit) t => wAt (dC, dI) (va_A (wG (cC cy ad τ) ad (182 + 6 * nb) σ) sz) (wG (cC cy ad τ) ad (182 + 6 * nb) σ) t) (va_A (wG (cC cy ad τ) ad (182 + 6 * nb) σ) sz)) 0 0 (va_A (wG (cC cy ad τ) ad (182 + 6 * nb) σ) sz) := by
  refine Met.ofW (cc := cX5_sumOver) (maxL := 6) (ret := (some .int)) (by decide) rfl ?_
  intro p e s m args below meth c s₁ B hml hv
  obtain ⟨rfl, hsz, hP, hK, hD0, hN⟩ := hv
  have hx := B.exec
  have hb := B.bytes
  have hr := B.returns
  have hts := atoms_spec (ws := wsX5_sumOver) B.pre
  have hown : s.vm.findClass RX5 = some m.cls := findClass_of_methodNamed B.named
  have hlocks := B.notSynchronized
  subst hsz
  have hD := hD0.self (sz := s.heap.size)
  generalize hAe : va_A (wG (cC cy ad τ) ad (182 + 6 * nb) σ) s.heap.size = A at hD ⊢
  have hA : ∀ q : Nat, s.heap.size ≤ q → A q := fun q h => by rw [← hAe]; exact Or.inr h
  have hS : va_S A s.heap s.heap [] := va_S.rf
  have hl := lv_entry ([.ref (ad 27), .int a1, .int a2]) (n := 6) (Nat.le_of_ble_eq_true rfl)
  rw [lg_entry_eq]
  generalize (lg_sl ([.ref (ad 27), .int a1, .int a2]) ++ List.replicate (6 - (lg_sl ([.ref (ad 27), .int a1, .int a2])).length) Slot.unset).toArray = ls at hl ⊢
  have hl : lv_has ls 6 [(0, .ref (ad 27)), (1, .int a1), (2, .int a2)] := hl
  unfold fX5_sumOver at h
  clear hAe hD0
  suffices HH : ∀ (H : Heap) (locs : List Loc) (ls : Array Slot), fX5_sumOver_0 τ σ a1 a2 = some r0 → va_P (dC, dI) vwCl (wG (cC cy ad τ) ad (182 + 6 * nb) σ) H → va_D A (wG (cC cy ad τ) ad (182 + 6 * nb) σ) → va_S A s.heap H locs → lv_has ls 6 [(0, .ref (ad 27)), (1, .int a1), (2, .int a2)] → W p l e (headSpec wsX5_sumOver ({ frames := 2, cells := 0, slots := 0, locals := 43 })).room s m (#[.ref (ad 27), .int a1, .int a2]) below meth c H locs 0 0 (MQ below (va_Qi (fun (r : Int32) (_ : Unit) => r = r0) (fun (_ : Unit) t => wAt (dC, dI) A (wG (cC cy ad τ) ad (182 + 6 * nb) σ) t) A) (#[.ref (ad 27), .int a1, .int a2]) s 0 0 A) (F0 m 0 ls []) from HH s.heap [] ls h hP hD hS hl
  have w29 : ∀ (n : Nat), ∀ (σ : S2) (x1 : Int32) (x3 : Int32) (x4 : Int32) (x5 : Int32) (H : Heap) (locs : List Loc) (ls : Array Slot), fX5_sumOver_29 τ n σ x1 x3 x4 x5 = some r0 → va_P (dC, dI) vwCl (wG (cC cy ad τ) ad (182 + 6 * nb) σ) H → va_D A (wG (cC cy ad τ) ad (182 + 6 * nb) σ) → va_S A s.heap H locs → lv_has ls 6 [(0, .ref (ad 27)), (1, .int x1), (3, .int x3), (4, .int x4), (5, .int x5)] → W p l e (headSpec wsX5_sumOver ({ frames := 2, cells := 0, slots := 0, locals := 43 })).room s m (#[.ref (ad 27), .int a1, .int a2]) below meth c H locs 0 0 (MQ below (va_Qi (fun (r : Int32) (_ : Unit) => r = r0) (fun (_ : Unit) t => wAt (dC, dI) A (wG (cC cy ad τ) ad (182 + 6 * nb) σ) t) A) (#[.ref (ad 27), .int a1, .int a2]) s 0 0 A) (F0 m 29 ls []) := by
    intro n
    induction n with
    | zero => intro σ x1 x3 x4 x5 H locs ls h; cases h
    | succ n ih =>
    intro σ x1 x3 x4 x5 H locs ls h hP hD hS hl
    unfold fX5_sumOver_29 at h
    refine lv_iload hx hb dX5_sumOver_29 (lv_at hl 4 rfl) ?_
    refine lv_aload_n hx hb dX5_sumOver_31 rfl (lv_at hl 0 rfl) ?_
    refine ux_get (D := (dC, dI)) (ci := 5) (v := .ref (ad 3)) (C := RX5) (T := TX5) (M := 10) (fs := (oOR ad (σ.1 27))) hx hb hts (fun _ h9 => List.mem_cons_of_mem _ (List.mem_append_left _ (List.mem_append_right _ h9))) hown hK hP 27 (Nat.lt_of_lt_of_le (Nat.le_of_ble_eq_true rfl : 27 < 182) (Nat.le_add_right _ _)) (cC_27 _ _ _ _ _) rfl 7 (by decide) (hts (.fieldLink RX5 37 "SeatsRound$Orders" "nameList" "LSeatsRound$NameList;") (List.mem_of_getElem? (i := 2) rfl)) (fun _ h9 => h9) rfl dX5_sumOver_32 ?_
    refine ux_get (D := (dC, dI)) (ci := 4) (v := .int (σ.1 3 3)) (C := RX4) (T := TX4) (M := 4) (fs := (oNL ad (σ.1 3))) hx hb hts (fun _ h9 => List.mem_cons_of_mem _ (List.mem_append_right _ h9)) hown hK hP 3 (Nat.lt_of_lt_of_le (Nat.le_of_ble_eq_true rfl : 3 < 182) (Nat.le_add_right _ _)) (cC_3 _ _ _ _ _) rfl 3 (by decide) (hts (.fieldLink RX5 90 "SeatsRound$NameList" "count" "I") (List.mem_of_getElem? (i := 3) rfl)) (fun _ h9 => h9) rfl dX5_sumOver_35 ?_
    refine lv_icmp_ge (tgt := 76) hx hb dX5_sumOver_38 (by decide) (fun hcd => ?_) (fun hcd => ?_)
    · have h := cdP hcd h
      refine lv_iload hx hb dX5_sumOver_76 (lv_at hl 3 rfl) ?_
      refine lv_aload_n hx hb dX5_sumOver_78 rfl (lv_at hl 0 rfl) ?_
      refine ux_get (D := (dC, dI)) (ci := 5) (v := .ref (ad 31)) (C := RX5) (T := TX5) (M := 10) (fs := (oOR ad (σ.1 27))) hx hb hts (fun _ h9 => List.mem_cons_of_mem _ (List.mem_append_left _ (List.mem_append_right _ h9))) hown hK hP 27 (Nat.lt_of_lt_of_le (Nat.le_of_ble_eq_true rfl : 27 < 182) (Nat.le_add_right _ _)) (cC_27 _ _ _ _ _) rfl 5 (by decide) (hts (.fieldLink RX5 30 "SeatsRound$Orders" "least" "[I") (List.mem_of_getElem? (i := 1) rfl)) (fun _ h9 => h9) rfl dX5_sumOver_79 ?_
      refine lv_iload_n hx hb dX5_sumOver_82 rfl (lv_at hl 2 rfl) ?_
      refine ux_iald hx hb hK hP 31 0 (Nat.lt_of_lt_of_le (Nat.le_of_ble_eq_true rfl : 31 < 182) (Nat.le_add_right _ _)) (cC_31 _ _ _ _ _) rfl h dX5_sumOver_83 (fun v1 h => ?_)
      refine lv_iadd hx hb dX5_sumOver_84 ?_
      exact ux_iretP hx hb hr h hP hD hS hlocks dX5_sumOver_85
    · have h := cdN hcd h
      refine lv_iload hx hb dX5_sumOver_41 (lv_at hl 3 rfl) ?_
      refine lv_aload_n hx hb dX5_sumOver_43 rfl (lv_at hl 0 rfl) ?_
      refine ux_get (D := (dC, dI)) (ci := 5) (v := .ref (ad 30)) (C := RX5) (T := TX5) (M := 10) (fs := (oOR ad (σ.1 27))) hx hb hts (fun _ h9 => List.mem_cons_of_mem _ (List.mem_append_left _ (List.mem_append_right _ h9))) hown hK hP 27 (Nat.lt_of_lt_of_le (Nat.le_of_ble_eq_true rfl : 27 < 182) (Nat.le_add_right _ _)) (cC_27 _ _ _ _ _) rfl 4 (by decide) (hts (.fieldLink RX5 27 "SeatsRound$Orders" "holders" "[[I") (List.mem_of_getElem? (i := 4) rfl)) (fun _ h9 => h9) rfl dX5_sumOver_44 ?_
      refine lv_iload_n hx hb dX5_sumOver_47 rfl (lv_at hl 2 rfl) ?_
      obtain ⟨hii2, h⟩ := ckS h
      have hri2 := vp_lt hii2
      refine vz_aldg hx hb hK hP 30 6 (wG_of (Nat.lt_of_lt_of_le (Nat.le_of_ble_eq_true rfl : 30 < 182) (Nat.le_add_right _ _)) (cC_30 _ _ _ _ _)) rfl hii2 (if_pos hri2) dX5_sumOver_48 ?_
      refine lv_iload hx hb dX5_sumOver_49 (lv_at hl 4 rfl) ?_
      refine ux_iald hx hb hK hP (144 + Int32.toNatClampNeg x3) 0 (by omega) (cC_r6 _ _ _ _ _ _ (by omega)) rfl h dX5_sumOver_51 (fun v3 h => ?_)
      refine lv_aload_n hx hb dX5_sumOver_52 rfl (lv_at hl 0 rfl) ?_
      refine ux_get (D := (dC, dI)) (ci := 5) (v := .ref (ad 30)) (C := RX5) (T := TX5) (M := 10) (fs := (oOR ad (σ.1 27))) hx hb hts (fun _ h9 => List.mem_cons_of_mem _ (List.mem_append_left _ (List.mem_append_right _ h9))) hown hK hP 27 (Nat.lt_of_lt_of_le (Nat.le_of_ble_eq_true rfl : 27 < 182) (Nat.le_add_right _ _)) (cC_27 _ _ _ _ _) rfl 4 (by decide) (hts (.fieldLink RX5 27 "SeatsRound$Orders" "holders" "[[I") (List.mem_of_getElem? (i := 4) rfl)) (fun _ h9 => h9) rfl dX5_sumOver_53 ?_
      refine lv_iload_n hx hb dX5_sumOver_56 rfl (lv_at hl 1 rfl) ?_
      obtain ⟨hii4, h⟩ := ckS h
      have hri4 := vp_lt hii4
      refine vz_aldg hx hb hK hP 30 6 (wG_of (Nat.lt_of_lt_of_le (Nat.le_of_ble_eq_true rfl : 30 < 182) (Nat.le_add_right _ _)) (cC_30 _ _ _ _ _)) rfl hii4 (if_pos hri4) dX5_sumOver_57 ?_
      refine lv_iload hx hb dX5_sumOver_58 (lv_at hl 4 rfl) ?_
      refine ux_iald hx hb hK hP (144 + Int32.toNatClampNeg x1) 0 (by omega) (cC_r6 _ _ _ _ _ _ (by omega)) rfl h dX5_sumOver_60 (fun v5 h => ?_)
      refine lv_iconst (v := (-1)) hx hb dX5_sumOver_61 (by decide) ?_
      refine lv_ixor hx hb dX5_sumOver_62 ?_
      refine lv_iand hx hb dX5_sumOver_63 ?_
      obtain ⟨r6, hf7, h⟩ := biS h
      refine ux_calli (va_runS (As := [.int (v3 &&& (v5 ^^^ (-1)))]) (rest := [.int x4]) ⟨hx, hb, hml, hown, hts⟩ (tJ6_bitCount_0f7a4 l dC dI cy ad τ nb hτ σ (v3 &&& (v5 ^^^ (-1))) H.size r6 hf7) (va_cwS 1 hts gX5_sumOver_J6_bitCount_0f7a4 rfl rfl rfl (by decide +kernel) ⟨Nat.le_of_ble_eq_true rfl, Nat.le_of_ble_eq_true rfl⟩) (wp_S hK hN hP hD) rfl rfl hl.1 rfl (lv_room (Nat.le_of_ble_eq_true rfl)) dX5_sumOver_64 ⟨Nat.le_of_ble_eq_true rfl, Nat.le_of_ble_eq_true rfl⟩) hD hS hA (fun H locs hP hD hS => ?_)
      refine lv_iadd hx hb dX5_sumOver_67 ?_
      refine lv_topi (fun v8 ev8 => ?_)
      have h := nmS h ev8
      refine lv_istore (lv' := [(4, .int v8), (0, .ref (ad 27)), (1, .int x1), (3, .int x3), (5, .int x5)]) hx hb dX5_sumOver_68 hl (by decide) rfl (fun ls hl => ?_)
      have hl := lv_sub hl [1, 2, 3, 0, 4] (l' := [(0, .ref (ad 27)), (1, .int x1), (3, .int x3), (4, .int v8), (5, .int x5)]) rfl
      obtain ⟨v9, ev9⟩ : ∃ y : Int32, y = x5 + 1 := ⟨_, rfl⟩
      have h := nmS h ev9
      refine lv_iinc (v := v9) (lv' := [(5, .int v9), (0, .ref (ad 27)), (1, .int x1), (3, .int x3), (4, .int v8)]) hx hb dX5_sumOver_70 hl (k := 4) rfl (by rw [ev9]; rfl) (by decide) rfl (fun ls hl => ?_)
      have hl := lv_sub hl [1, 2, 3, 4, 0] (l' := [(0, .ref (ad 27)), (1, .int x1), (3, .int x3), (4, .int v8), (5, .int v9)]) rfl
      refine lv_goto (tgt := 29) hx hb dX5_sumOver_73 (by decide) ?_
      exact ih σ x1 x3 v8 v9 H locs ls h hP hD hS hl
  have w0 : ∀ (σ : S2) (x1 : Int32) (x2 : Int32) (H : Heap) (locs : List Loc) (ls : Array Slot), fX5_sumOver_0 τ σ x1 x2 = some r0 → va_P (dC, dI) vwCl (wG (cC cy ad τ) ad (182 + 6 * nb) σ) H → va_D A (wG (cC cy ad τ) ad (182 + 6 * nb) σ) → va_S A s.heap H locs → lv_has ls 6 [(0, .ref (ad 27)), (1, .int x1), (2, .int x2)] → W p l e (headSpec wsX5_sumOver ({ frames := 2, cells := 0, slots := 0, locals := 43 })).room s m (#[.ref (ad 27), .int a1, .int a2]) below meth c H locs 0 0 (MQ below (va_Qi (fun (r : Int32) (_ : Unit) => r = r0) (fun (_ : Unit) t => wAt (dC, dI) A (wG (cC cy ad τ) ad (182 + 6 * nb) σ) t) A) (#[.ref (ad 27), .int a1, .int a2]) s 0 0 A) (F0 m 0 ls []) := by
    intro σ x1 x2 H locs ls h hP hD hS hl
    unfold fX5_sumOver_0 at h
    refine lv_iload_n hx hb dX5_sumOver_0 rfl (lv_at hl 1 rfl) ?_
    refine lv_iconst (v := 1) hx hb dX5_sumOver_1 (by decide) ?_
    refine lv_iload_n hx hb dX5_sumOver_2 rfl (lv_at hl 2 rfl) ?_
    refine lv_ishl hx hb dX5_sumOver_3 ?_
    refine lv_ior hx hb dX5_sumOver_4 ?_
    refine lv_topi (fun v10 ev10 => ?_)
    have h := nmS h ev10
    refine lv_istore_n (lv' := [(3, .int v10), (0, .ref (ad 27)), (1, .int x1), (2, .int x2)]) hx hb dX5_sumOver_5 rfl hl (by decide) rfl (fun ls hl => ?_)
    have hl := lv_sub hl [1, 2, 3, 0] (l' := [(0, .ref (ad 27)), (1, .int x1), (2, .int x2), (3, .int v10)]) rfl
    refine lv_iload_n hx hb dX5_sumOver_6 rfl (lv_at hl 3 rfl) ?_
    refine lv_iload_n hx hb dX5_sumOver_7 rfl (lv_at hl 1 rfl) ?_
    refine lv_icmp_eq (tgt := 21) hx hb dX5_sumOver_8 (by decide) (fun hcd => ?_) (fun hcd => ?_)
    · have h := cdP hcd h
      refine lv_iconst (v := (-1)) hx hb dX5_sumOver_21 (by decide) ?_
      exact ux_iretP hx hb hr h hP hD hS hlocks dX5_sumOver_22
    · have h := cdN hcd h
      refine lv_aload_n hx hb dX5_sumOver_11 rfl (lv_at hl 0 rfl) ?_
      refine ux_get (D := (dC, dI)) (ci := 5) (v := .ref (ad 31)) (C := RX5) (T := TX5) (M := 10) (fs := (oOR ad (σ.1 27))) hx hb hts (fun _ h9 => List.mem_cons_of_mem _ (List.mem_append_left _ (List.mem_append_right _ h9))) hown hK hP 27 (Nat.lt_of_lt_of_le (Nat.le_of_ble_eq_true rfl : 27 < 182) (Nat.le_add_right _ _)) (cC_27 _ _ _ _ _) rfl 5 (by decide) (hts (.fieldLink RX5 30 "SeatsRound$Orders" "least" "[I") (List.mem_of_getElem? (i := 1) rfl)) (fun _ h9 => h9) rfl dX5_sumOver_12 ?_
      refine lv_iload_n hx hb dX5_sumOver_15 rfl (lv_at hl 3 rfl) ?_
      refine ux_iald hx hb hK hP 31 0 (Nat.lt_of_lt_of_le (Nat.le_of_ble_eq_true rfl : 31 < 182) (Nat.le_add_right _ _)) (cC_31 _ _ _ _ _) rfl h dX5_sumOver_16 (fun v11 h => ?_)
      refine lv_iconst (v := (-1)) hx hb dX5_sumOver_17 (by decide) ?_
      refine lv_icmp_ne (tgt := 23) hx hb dX5_sumOver_18 (by decide) (fun hcd => ?_) (fun hcd => ?_)
      · have h := cdN hcd h
        refine lv_iconst (v := 0) hx hb dX5_sumOver_23 (by decide) ?_
        refine lv_istore (lv' := [(4, .int 0), (0, .ref (ad 27)), (1, .int x1), (2, .int x2), (3, .int v10)]) hx hb dX5_sumOver_24 hl (by decide) rfl (fun ls hl => ?_)
        have hl := lv_sub hl [1, 2, 3, 4, 0] (l' := [(0, .ref (ad 27)), (1, .int x1), (2, .int x2), (3, .int v10), (4, .int 0)]) rfl
        refine lv_iconst (v := 0) hx hb dX5_sumOver_26 (by decide) ?_
        refine lv_istore (lv' := [(5, .int 0), (0, .ref (ad 27)), (1, .int x1), (2, .int x2), (3, .int v10), (4, .int 0)]) hx hb dX5_sumOver_27 hl (by decide) rfl (fun ls hl => ?_)
        have hl := lv_sub hl [1, 2, 3, 4, 5, 0] (l' := [(0, .ref (ad 27)), (1, .int x1), (2, .int x2), (3, .int v10), (4, .int 0), (5, .int 0)]) rfl
        exact w29 FU σ x1 v10 0 0 H locs ls h hP hD hS (lv_sub hl [0, 1, 3, 4, 5] rfl)
      · have h := cdP hcd h
        refine lv_iconst (v := (-1)) hx hb dX5_sumOver_21 (by decide) ?_
        exact ux_iretP hx hb hr h hP hD hS hlocks dX5_sumOver_22
  intro H locs ls h hP hD hS hl
  exact w0 σ a1 a2 H locs ls h hP hD hS (lv_sub hl [0, 1, 2] rfl)

set_option maxHeartbeats 4000000 in
set_option maxRecDepth 100000 in
theorem tX5_leastOnward (l : Launch) (dC : Nat → ClassId) (dI : Nat → Nat → Nat) (cy : Nat → ClassId) (ad : Nat → Nat) (τ nb : Nat) (hτ : τ < nb) (σ : S2) (a1 : Int32) (sz : Nat) (r0 : Int32) (h : fX5_leastOnward τ σ a1 = some r0) : Met l yX5_leastOnward wsX5_leastOnward ({ frames := 3, cells := 0, slots := 0, locals := 68 }) (va_Pc [.ref (ad 27), .int a1] (wPre (dC, dI) cy (wG (cC cy ad τ) ad (182 + 6 * nb) σ) sz)) (va_Qi (fun (r : Int32) (_ : Unit) => r = r0) (fun (_ : Unit) t => wAt (dC, dI) (va_A (wG (cC cy ad τ) ad (182 + 6 * nb) σ) sz) (wG (cC cy ad τ) ad (182 + 6 * nb) σ) t) (va_A (wG (cC cy ad τ) ad (182 + 6 * nb) σ) sz)) 0 0 (va_A (wG (cC cy ad τ) ad (182 + 6 * nb) σ) sz) := by
  refine Met.ofW (cc := cX5_leastOnward) (maxL := 5) (ret := (some .int)) (by decide) rfl ?_
  intro p e s m args below meth c s₁ B hml hv
  obtain ⟨rfl, hsz, hP, hK, hD0, hN⟩ := hv
  have hx := B.exec
  have hb := B.bytes
  have hr := B.returns
  have hts := atoms_spec (ws := wsX5_leastOnward) B.pre
  have hown : s.vm.findClass RX5 = some m.cls := findClass_of_methodNamed B.named
  have hlocks := B.notSynchronized
  subst hsz
  have hD := hD0.self (sz := s.heap.size)
  generalize hAe : va_A (wG (cC cy ad τ) ad (182 + 6 * nb) σ) s.heap.size = A at hD ⊢
  have hA : ∀ q : Nat, s.heap.size ≤ q → A q := fun q h => by rw [← hAe]; exact Or.inr h
  have hS : va_S A s.heap s.heap [] := va_S.rf
  have hl := lv_entry ([.ref (ad 27), .int a1]) (n := 5) (Nat.le_of_ble_eq_true rfl)
  rw [lg_entry_eq]
  generalize (lg_sl ([.ref (ad 27), .int a1]) ++ List.replicate (5 - (lg_sl ([.ref (ad 27), .int a1])).length) Slot.unset).toArray = ls at hl ⊢
  have hl : lv_has ls 5 [(0, .ref (ad 27)), (1, .int a1)] := hl
  unfold fX5_leastOnward at h
  clear hAe hD0
  suffices HH : ∀ (H : Heap) (locs : List Loc) (ls : Array Slot), fX5_leastOnward_0 τ σ a1 = some r0 → va_P (dC, dI) vwCl (wG (cC cy ad τ) ad (182 + 6 * nb) σ) H → va_D A (wG (cC cy ad τ) ad (182 + 6 * nb) σ) → va_S A s.heap H locs → lv_has ls 5 [(0, .ref (ad 27)), (1, .int a1)] → W p l e (headSpec wsX5_leastOnward ({ frames := 3, cells := 0, slots := 0, locals := 68 })).room s m (#[.ref (ad 27), .int a1]) below meth c H locs 0 0 (MQ below (va_Qi (fun (r : Int32) (_ : Unit) => r = r0) (fun (_ : Unit) t => wAt (dC, dI) A (wG (cC cy ad τ) ad (182 + 6 * nb) σ) t) A) (#[.ref (ad 27), .int a1]) s 0 0 A) (F0 m 0 ls []) from HH s.heap [] ls h hP hD hS hl
  have w40 : ∀ (k4 : S2 → Int32 → Int32 → Int32 → Option Int32) (hk4 : ∀ (σ : S2) (x1 : Int32) (x2 : Int32) (x3 : Int32) (H : Heap) (locs : List Loc) (ls : Array Slot), k4 σ x1 x2 x3 = some r0 → va_P (dC, dI) vwCl (wG (cC cy ad τ) ad (182 + 6 * nb) σ) H → va_D A (wG (cC cy ad τ) ad (182 + 6 * nb) σ) → va_S A s.heap H locs → lv_has ls 5 [(0, .ref (ad 27)), (1, .int x1), (2, .int x2), (3, .int x3)] → W p l e (headSpec wsX5_leastOnward ({ frames := 3, cells := 0, slots := 0, locals := 68 })).room s m (#[.ref (ad 27), .int a1]) below meth c H locs 0 0 (MQ below (va_Qi (fun (r : Int32) (_ : Unit) => r = r0) (fun (_ : Unit) t => wAt (dC, dI) A (wG (cC cy ad τ) ad (182 + 6 * nb) σ) t) A) (#[.ref (ad 27), .int a1]) s 0 0 A) (F0 m 4 ls [])) , ∀ (σ : S2) (x1 : Int32) (x2 : Int32) (x3 : Int32) (H : Heap) (locs : List Loc) (ls : Array Slot), fX5_leastOnward_40 τ k4 σ x1 x2 x3 = some r0 → va_P (dC, dI) vwCl (wG (cC cy ad τ) ad (182 + 6 * nb) σ) H → va_D A (wG (cC cy ad τ) ad (182 + 6 * nb) σ) → va_S A s.heap H locs → lv_has ls 5 [(0, .ref (ad 27)), (1, .int x1), (2, .int x2), (3, .int x3)] → W p l e (headSpec wsX5_leastOnward ({ frames := 3, cells := 0, slots := 0, locals := 68 })).room s m (#[.ref (ad 27), .int a1]) below meth c H locs 0 0 (MQ below (va_Qi (fun (r : Int32) (_ : Unit) => r = r0) (fun (_ : Unit) t => wAt (dC, dI) A (wG (cC cy ad τ) ad (182 + 6 * nb) σ) t) A) (#[.ref (ad 27), .int a1]) s 0 0 A) (F0 m 40 ls []) := by
    intro k4 hk4 σ x1 x2 x3 H locs ls h hP hD hS hl
    unfold fX5_leastOnward_40 at h
    obtain ⟨v1, ev1⟩ : ∃ y : Int32, y = x3 + 1 := ⟨_, rfl⟩
    have h := nmS h ev1
    refine lv_iinc (v := v1) (lv' := [(3, .int v1), (0, .ref (ad 27)), (1, .int x1), (2, .int x2)]) hx hb dX5_leastOnward_40 hl (k := 3) rfl (by rw [ev1]; rfl) (by decide) rfl (fun ls hl => ?_)
    have hl := lv_sub hl [1, 2, 3, 0] (l' := [(0, .ref (ad 27)), (1, .int x1), (2, .int x2), (3, .int v1)]) rfl
    refine lv_goto (tgt := 4) hx hb dX5_leastOnward_43 (by decide) ?_
    exact hk4 σ x1 x2 v1 H locs ls h hP hD hS hl
  have w37 : ∀ (k4 : S2 → Int32 → Int32 → Int32 → Option Int32) (hk4 : ∀ (σ : S2) (x1 : Int32) (x2 : Int32) (x3 : Int32) (H : Heap) (locs : List Loc) (ls : Array Slot), k4 σ x1 x2 x3 = some r0 → va_P (dC, dI) vwCl (wG (cC cy ad τ) ad (182 + 6 * nb) σ) H → va_D A (wG (cC cy ad τ) ad (182 + 6 * nb) σ) → va_S A s.heap H locs → lv_has ls 5 [(0, .ref (ad 27)), (1, .int x1), (2, .int x2), (3, .int x3)] → W p l e (headSpec wsX5_leastOnward ({ frames := 3, cells := 0, slots := 0, locals := 68 })).room s m (#[.ref (ad 27), .int a1]) below meth c H locs 0 0 (MQ below (va_Qi (fun (r : Int32) (_ : Unit) => r = r0) (fun (_ : Unit) t => wAt (dC, dI) A (wG (cC cy ad τ) ad (182 + 6 * nb) σ) t) A) (#[.ref (ad 27), .int a1]) s 0 0 A) (F0 m 4 ls [])) , ∀ (σ : S2) (x1 : Int32) (x3 : Int32) (x4 : Int32) (H : Heap) (locs : List Loc) (ls : Array Slot), fX5_leastOnward_37 τ k4 σ x1 x3 x4 = some r0 → va_P (dC, dI) vwCl (wG (cC cy ad τ) ad (182 + 6 * nb) σ) H → va_D A (wG (cC cy ad τ) ad (182 + 6 * nb) σ) → va_S A s.heap H locs → lv_has ls 5 [(0, .ref (ad 27)), (1, .int x1), (3, .int x3), (4, .int x4)] → W p l e (headSpec wsX5_leastOnward ({ frames := 3, cells := 0, slots := 0, locals := 68 })).room s m (#[.ref (ad 27), .int a1]) below meth c H locs 0 0 (MQ below (va_Qi (fun (r : Int32) (_ : Unit) => r = r0) (fun (_ : Unit) t => wAt (dC, dI) A (wG (cC cy ad τ) ad (182 + 6 * nb) σ) t) A) (#[.ref (ad 27), .int a1]) s 0 0 A) (F0 m 37 ls []) := by
    intro k4 hk4 σ x1 x3 x4 H locs ls h hP hD hS hl
    unfold fX5_leastOnward_37 at h
    refine lv_iload hx hb dX5_leastOnward_37 (lv_at hl 3 rfl) ?_
    refine lv_istore_n (lv' := [(2, .int x4), (0, .ref (ad 27)), (1, .int x1), (3, .int x3), (4, .int x4)]) hx hb dX5_leastOnward_39 rfl hl (by decide) rfl (fun ls hl => ?_)
    have hl := lv_sub hl [1, 2, 0, 3, 4] (l' := [(0, .ref (ad 27)), (1, .int x1), (2, .int x4), (3, .int x3), (4, .int x4)]) rfl
    exact w40 _ hk4 σ x1 x4 x3 H locs ls h hP hD hS (lv_sub hl [0, 1, 2, 3] rfl)
  have w4 : ∀ (n : Nat), ∀ (σ : S2) (x1 : Int32) (x2 : Int32) (x3 : Int32) (H : Heap) (locs : List Loc) (ls : Array Slot), fX5_leastOnward_4 τ n σ x1 x2 x3 = some r0 → va_P (dC, dI) vwCl (wG (cC cy ad τ) ad (182 + 6 * nb) σ) H → va_D A (wG (cC cy ad τ) ad (182 + 6 * nb) σ) → va_S A s.heap H locs → lv_has ls 5 [(0, .ref (ad 27)), (1, .int x1), (2, .int x2), (3, .int x3)] → W p l e (headSpec wsX5_leastOnward ({ frames := 3, cells := 0, slots := 0, locals := 68 })).room s m (#[.ref (ad 27), .int a1]) below meth c H locs 0 0 (MQ below (va_Qi (fun (r : Int32) (_ : Unit) => r = r0) (fun (_ : Unit) t => wAt (dC, dI) A (wG (cC cy ad τ) ad (182 + 6 * nb) σ) t) A) (#[.ref (ad 27), .int a1]) s 0 0 A) (F0 m 4 ls []) := by
    intro n
    induction n with
    | zero => intro σ x1 x2 x3 H locs ls h; cases h
    | succ n ih =>
    intro σ x1 x2 x3 H locs ls h hP hD hS hl
    unfold fX5_leastOnward_4 at h
    refine lv_iload_n hx hb dX5_leastOnward_4 rfl (lv_at hl 3 rfl) ?_
    refine lv_aload_n hx hb dX5_leastOnward_5 rfl (lv_at hl 0 rfl) ?_
    refine ux_get (D := (dC, dI)) (ci := 5) (v := .int (σ.1 27 1)) (C := RX5) (T := TX5) (M := 10) (fs := (oOR ad (σ.1 27))) hx hb hts (fun _ h9 => List.mem_cons_of_mem _ (List.mem_append_left _ (List.mem_append_right _ h9))) hown hK hP 27 (Nat.lt_of_lt_of_le (Nat.le_of_ble_eq_true rfl : 27 < 182) (Nat.le_add_right _ _)) (cC_27 _ _ _ _ _) rfl 1 (by decide) (hts (.fieldLink RX5 15 "SeatsRound$Orders" "toldCount" "I") (List.mem_of_getElem? (i := 1) rfl)) (fun _ h9 => h9) rfl dX5_leastOnward_6 ?_
    refine lv_icmp_ge (tgt := 46) hx hb dX5_leastOnward_9 (by decide) (fun hcd => ?_) (fun hcd => ?_)
    · have h := cdP hcd h
      refine lv_iload_n hx hb dX5_leastOnward_46 rfl (lv_at hl 2 rfl) ?_
      exact ux_iretP hx hb hr h hP hD hS hlocks dX5_leastOnward_47
    · have h := cdN hcd h
      refine lv_aload_n hx hb dX5_leastOnward_12 rfl (lv_at hl 0 rfl) ?_
      refine lv_iload_n hx hb dX5_leastOnward_13 rfl (lv_at hl 1 rfl) ?_
      refine lv_iload_n hx hb dX5_leastOnward_14 rfl (lv_at hl 3 rfl) ?_
      obtain ⟨r2, hf3, h⟩ := biS h
      refine ux_calli (va_runV (As := [.int x1, .int x3]) (rest := []) ⟨hx, hb, hml, hown, hts⟩ (tX5_sumOver l dC dI cy ad τ nb hτ σ x1 x3 H.size r2 hf3) (cwV 2 hts gX5_leastOnward_X5_sumOver rfl rfl rfl (by decide +kernel) ⟨Nat.le_of_ble_eq_true rfl, Nat.le_of_ble_eq_true rfl⟩) (wp_V hK hN hP hD (va_recv hK hP (ci := 5) (q0 := 27) rfl (wG_of (Nat.lt_of_lt_of_le (Nat.le_of_ble_eq_true rfl : 27 < 182) (Nat.le_add_right _ _)) (cC_27 _ _ _ _ _)))) rfl rfl hl.1 rfl (lv_room (Nat.le_of_ble_eq_true rfl)) dX5_leastOnward_15 ⟨Nat.le_of_ble_eq_true rfl, Nat.le_of_ble_eq_true rfl⟩) hD hS hA (fun H locs hP hD hS => ?_)
      refine lv_istore (lv' := [(4, .int r2), (0, .ref (ad 27)), (1, .int x1), (2, .int x2), (3, .int x3)]) hx hb dX5_leastOnward_18 hl (by decide) rfl (fun ls hl => ?_)
      have hl := lv_sub hl [1, 2, 3, 4, 0] (l' := [(0, .ref (ad 27)), (1, .int x1), (2, .int x2), (3, .int x3), (4, .int r2)]) rfl
      refine lv_iload hx hb dX5_leastOnward_20 (lv_at hl 4 rfl) ?_
      refine lv_iconst (v := (-1)) hx hb dX5_leastOnward_22 (by decide) ?_
      refine lv_icmp_eq (tgt := 40) hx hb dX5_leastOnward_23 (by decide) (fun hcd => ?_) (fun hcd => ?_)
      · have h := cdP hcd h
        exact w40 _ ih σ x1 x2 x3 H locs ls h hP hD hS (lv_sub hl [0, 1, 2, 3] rfl)
      · have h := cdN hcd h
        refine lv_iload_n hx hb dX5_leastOnward_26 rfl (lv_at hl 2 rfl) ?_
        refine lv_iconst (v := (-1)) hx hb dX5_leastOnward_27 (by decide) ?_
        refine lv_icmp_eq (tgt := 37) hx hb dX5_leastOnward_28 (by decide) (fun hcd => ?_) (fun hcd => ?_)
        · have h := cdP hcd h
          exact w37 _ ih σ x1 x3 r2 H locs ls h hP hD hS (lv_sub hl [0, 1, 3, 4] rfl)
        · have h := cdN hcd h
          refine lv_iload hx hb dX5_leastOnward_31 (lv_at hl 4 rfl) ?_
          refine lv_iload_n hx hb dX5_leastOnward_33 rfl (lv_at hl 2 rfl) ?_
          refine lv_icmp_ge (tgt := 40) hx hb dX5_leastOnward_34 (by decide) (fun hcd => ?_) (fun hcd => ?_)
          · have h := cdP hcd h
            exact w40 _ ih σ x1 x2 x3 H locs ls h hP hD hS (lv_sub hl [0, 1, 2, 3] rfl)
          · have h := cdN hcd h
            exact w37 _ ih σ x1 x3 r2 H locs ls h hP hD hS (lv_sub hl [0, 1, 3, 4] rfl)
  have w0 : ∀ (σ : S2) (x1 : Int32) (H : Heap) (locs : List Loc) (ls : Array Slot), fX5_leastOnward_0 τ σ x1 = some r0 → va_P (dC, dI) vwCl (wG (cC cy ad τ) ad (182 + 6 * nb) σ) H → va_D A (wG (cC cy ad τ) ad (182 + 6 * nb) σ) → va_S A s.heap H locs → lv_has ls 5 [(0, .ref (ad 27)), (1, .int x1)] → W p l e (headSpec wsX5_leastOnward ({ frames := 3, cells := 0, slots := 0, locals := 68 })).room s m (#[.ref (ad 27), .int a1]) below meth c H locs 0 0 (MQ below (va_Qi (fun (r : Int32) (_ : Unit) => r = r0) (fun (_ : Unit) t => wAt (dC, dI) A (wG (cC cy ad τ) ad (182 + 6 * nb) σ) t) A) (#[.ref (ad 27), .int a1]) s 0 0 A) (F0 m 0 ls []) := by
    intro σ x1 H locs ls h hP hD hS hl
    unfold fX5_leastOnward_0 at h
    refine lv_iconst (v := (-1)) hx hb dX5_leastOnward_0 (by decide) ?_
    refine lv_istore_n (lv' := [(2, .int (-1)), (0, .ref (ad 27)), (1, .int x1)]) hx hb dX5_leastOnward_1 rfl hl (by decide) rfl (fun ls hl => ?_)
    have hl := lv_sub hl [1, 2, 0] (l' := [(0, .ref (ad 27)), (1, .int x1), (2, .int (-1))]) rfl
    refine lv_iconst (v := 0) hx hb dX5_leastOnward_2 (by decide) ?_
    refine lv_istore_n (lv' := [(3, .int 0), (0, .ref (ad 27)), (1, .int x1), (2, .int (-1))]) hx hb dX5_leastOnward_3 rfl hl (by decide) rfl (fun ls hl => ?_)
    have hl := lv_sub hl [1, 2, 3, 0] (l' := [(0, .ref (ad 27)), (1, .int x1), (2, .int (-1)), (3, .int 0)]) rfl
    exact w4 FU σ x1 (-1) 0 H locs ls h hP hD hS hl
  intro H locs ls h hP hD hS hl
  exact w0 σ a1 H locs ls h hP hD hS (lv_sub hl [0, 1] rfl)

set_option maxHeartbeats 4000000 in
set_option maxRecDepth 100000 in
theorem tX5_nextOf (l : Launch) (dC : Nat → ClassId) (dI : Nat → Nat → Nat) (cy : Nat → ClassId) (ad : Nat → Nat) (τ nb : Nat) (hτ : τ < nb) (σ : S2) (a1 : Int32) (sz : Nat) (r0 : Int32) (h : fX5_nextOf τ σ a1 = some r0) : Met l yX5_nextOf wsX5_nextOf ({ frames := 3, cells := 0, slots := 0, locals := 68 }) (va_Pc [.ref (ad 27), .int a1] (wPre (dC, dI) cy (wG (cC cy ad τ) ad (182 + 6 * nb) σ) sz)) (va_Qi (fun (r : Int32) (_ : Unit) => r = r0) (fun (_ : Unit) t => wAt (dC, dI) (va_A (wG (cC cy ad τ) ad (182 + 6 * nb) σ) sz) (wG (cC cy ad τ) ad (182 + 6 * nb) σ) t) (va_A (wG (cC cy ad τ) ad (182 + 6 * nb) σ) sz)) 0 0 (va_A (wG (cC cy ad τ) ad (182 + 6 * nb) σ) sz) := by
  refine Met.ofW (cc := cX5_nextOf) (maxL := 3) (ret := (some .int)) (by decide) rfl ?_
  intro p e s m args below meth c s₁ B hml hv
  obtain ⟨rfl, hsz, hP, hK, hD0, hN⟩ := hv
  have hx := B.exec
  have hb := B.bytes
  have hr := B.returns
  have hts := atoms_spec (ws := wsX5_nextOf) B.pre
  have hown : s.vm.findClass RX5 = some m.cls := findClass_of_methodNamed B.named
  have hlocks := B.notSynchronized
  subst hsz
  have hD := hD0.self (sz := s.heap.size)
  generalize hAe : va_A (wG (cC cy ad τ) ad (182 + 6 * nb) σ) s.heap.size = A at hD ⊢
  have hA : ∀ q : Nat, s.heap.size ≤ q → A q := fun q h => by rw [← hAe]; exact Or.inr h
  have hS : va_S A s.heap s.heap [] := va_S.rf
  have hl := lv_entry ([.ref (ad 27), .int a1]) (n := 3) (Nat.le_of_ble_eq_true rfl)
  rw [lg_entry_eq]
  generalize (lg_sl ([.ref (ad 27), .int a1]) ++ List.replicate (3 - (lg_sl ([.ref (ad 27), .int a1])).length) Slot.unset).toArray = ls at hl ⊢
  have hl : lv_has ls 3 [(0, .ref (ad 27)), (1, .int a1)] := hl
  unfold fX5_nextOf at h
  clear hAe hD0
  suffices HH : ∀ (H : Heap) (locs : List Loc) (ls : Array Slot), fX5_nextOf_0 τ σ a1 = some r0 → va_P (dC, dI) vwCl (wG (cC cy ad τ) ad (182 + 6 * nb) σ) H → va_D A (wG (cC cy ad τ) ad (182 + 6 * nb) σ) → va_S A s.heap H locs → lv_has ls 3 [(0, .ref (ad 27)), (1, .int a1)] → W p l e (headSpec wsX5_nextOf ({ frames := 3, cells := 0, slots := 0, locals := 68 })).room s m (#[.ref (ad 27), .int a1]) below meth c H locs 0 0 (MQ below (va_Qi (fun (r : Int32) (_ : Unit) => r = r0) (fun (_ : Unit) t => wAt (dC, dI) A (wG (cC cy ad τ) ad (182 + 6 * nb) σ) t) A) (#[.ref (ad 27), .int a1]) s 0 0 A) (F0 m 0 ls []) from HH s.heap [] ls h hP hD hS hl
  have w37 : ∀ (k2 : S2 → Int32 → Int32 → Option Int32) (hk2 : ∀ (σ : S2) (x1 : Int32) (x2 : Int32) (H : Heap) (locs : List Loc) (ls : Array Slot), k2 σ x1 x2 = some r0 → va_P (dC, dI) vwCl (wG (cC cy ad τ) ad (182 + 6 * nb) σ) H → va_D A (wG (cC cy ad τ) ad (182 + 6 * nb) σ) → va_S A s.heap H locs → lv_has ls 3 [(0, .ref (ad 27)), (1, .int x1), (2, .int x2)] → W p l e (headSpec wsX5_nextOf ({ frames := 3, cells := 0, slots := 0, locals := 68 })).room s m (#[.ref (ad 27), .int a1]) below meth c H locs 0 0 (MQ below (va_Qi (fun (r : Int32) (_ : Unit) => r = r0) (fun (_ : Unit) t => wAt (dC, dI) A (wG (cC cy ad τ) ad (182 + 6 * nb) σ) t) A) (#[.ref (ad 27), .int a1]) s 0 0 A) (F0 m 2 ls [])) , ∀ (σ : S2) (x1 : Int32) (x2 : Int32) (H : Heap) (locs : List Loc) (ls : Array Slot), fX5_nextOf_37 τ k2 σ x1 x2 = some r0 → va_P (dC, dI) vwCl (wG (cC cy ad τ) ad (182 + 6 * nb) σ) H → va_D A (wG (cC cy ad τ) ad (182 + 6 * nb) σ) → va_S A s.heap H locs → lv_has ls 3 [(0, .ref (ad 27)), (1, .int x1), (2, .int x2)] → W p l e (headSpec wsX5_nextOf ({ frames := 3, cells := 0, slots := 0, locals := 68 })).room s m (#[.ref (ad 27), .int a1]) below meth c H locs 0 0 (MQ below (va_Qi (fun (r : Int32) (_ : Unit) => r = r0) (fun (_ : Unit) t => wAt (dC, dI) A (wG (cC cy ad τ) ad (182 + 6 * nb) σ) t) A) (#[.ref (ad 27), .int a1]) s 0 0 A) (F0 m 37 ls []) := by
    intro k2 hk2 σ x1 x2 H locs ls h hP hD hS hl
    unfold fX5_nextOf_37 at h
    obtain ⟨v1, ev1⟩ : ∃ y : Int32, y = x2 + 1 := ⟨_, rfl⟩
    have h := nmS h ev1
    refine lv_iinc (v := v1) (lv' := [(2, .int v1), (0, .ref (ad 27)), (1, .int x1)]) hx hb dX5_nextOf_37 hl (k := 2) rfl (by rw [ev1]; rfl) (by decide) rfl (fun ls hl => ?_)
    have hl := lv_sub hl [1, 2, 0] (l' := [(0, .ref (ad 27)), (1, .int x1), (2, .int v1)]) rfl
    refine lv_goto (tgt := 2) hx hb dX5_nextOf_40 (by decide) ?_
    exact hk2 σ x1 v1 H locs ls h hP hD hS hl
  have w2 : ∀ (n : Nat), ∀ (σ : S2) (x1 : Int32) (x2 : Int32) (H : Heap) (locs : List Loc) (ls : Array Slot), fX5_nextOf_2 τ n σ x1 x2 = some r0 → va_P (dC, dI) vwCl (wG (cC cy ad τ) ad (182 + 6 * nb) σ) H → va_D A (wG (cC cy ad τ) ad (182 + 6 * nb) σ) → va_S A s.heap H locs → lv_has ls 3 [(0, .ref (ad 27)), (1, .int x1), (2, .int x2)] → W p l e (headSpec wsX5_nextOf ({ frames := 3, cells := 0, slots := 0, locals := 68 })).room s m (#[.ref (ad 27), .int a1]) below meth c H locs 0 0 (MQ below (va_Qi (fun (r : Int32) (_ : Unit) => r = r0) (fun (_ : Unit) t => wAt (dC, dI) A (wG (cC cy ad τ) ad (182 + 6 * nb) σ) t) A) (#[.ref (ad 27), .int a1]) s 0 0 A) (F0 m 2 ls []) := by
    intro n
    induction n with
    | zero => intro σ x1 x2 H locs ls h; cases h
    | succ n ih =>
    intro σ x1 x2 H locs ls h hP hD hS hl
    unfold fX5_nextOf_2 at h
    refine lv_iload_n hx hb dX5_nextOf_2 rfl (lv_at hl 2 rfl) ?_
    refine lv_aload_n hx hb dX5_nextOf_3 rfl (lv_at hl 0 rfl) ?_
    refine ux_get (D := (dC, dI)) (ci := 5) (v := .int (σ.1 27 1)) (C := RX5) (T := TX5) (M := 10) (fs := (oOR ad (σ.1 27))) hx hb hts (fun _ h9 => List.mem_cons_of_mem _ (List.mem_append_left _ (List.mem_append_right _ h9))) hown hK hP 27 (Nat.lt_of_lt_of_le (Nat.le_of_ble_eq_true rfl : 27 < 182) (Nat.le_add_right _ _)) (cC_27 _ _ _ _ _) rfl 1 (by decide) (hts (.fieldLink RX5 15 "SeatsRound$Orders" "toldCount" "I") (List.mem_of_getElem? (i := 1) rfl)) (fun _ h9 => h9) rfl dX5_nextOf_4 ?_
    refine lv_icmp_ge (tgt := 43) hx hb dX5_nextOf_7 (by decide) (fun hcd => ?_) (fun hcd => ?_)
    · have h := cdP hcd h
      refine lv_iconst (v := 0) hx hb dX5_nextOf_43 (by decide) ?_
      exact ux_iretP hx hb hr h hP hD hS hlocks dX5_nextOf_44
    · have h := cdN hcd h
      refine lv_aload_n hx hb dX5_nextOf_10 rfl (lv_at hl 0 rfl) ?_
      refine lv_iload_n hx hb dX5_nextOf_11 rfl (lv_at hl 1 rfl) ?_
      refine lv_iload_n hx hb dX5_nextOf_12 rfl (lv_at hl 2 rfl) ?_
      obtain ⟨r2, hf3, h⟩ := biS h
      refine ux_calli (va_runV (As := [.int x1, .int x2]) (rest := []) ⟨hx, hb, hml, hown, hts⟩ (tX5_sumOver l dC dI cy ad τ nb hτ σ x1 x2 H.size r2 hf3) (cwV 2 hts gX5_nextOf_X5_sumOver rfl rfl rfl (by decide +kernel) ⟨Nat.le_of_ble_eq_true rfl, Nat.le_of_ble_eq_true rfl⟩) (wp_V hK hN hP hD (va_recv hK hP (ci := 5) (q0 := 27) rfl (wG_of (Nat.lt_of_lt_of_le (Nat.le_of_ble_eq_true rfl : 27 < 182) (Nat.le_add_right _ _)) (cC_27 _ _ _ _ _)))) rfl rfl hl.1 rfl (lv_room (Nat.le_of_ble_eq_true rfl)) dX5_nextOf_13 ⟨Nat.le_of_ble_eq_true rfl, Nat.le_of_ble_eq_true rfl⟩) hD hS hA (fun H locs hP hD hS => ?_)
      refine lv_aload_n hx hb dX5_nextOf_16 rfl (lv_at hl 0 rfl) ?_
      refine ux_get (D := (dC, dI)) (ci := 5) (v := .ref (ad 31)) (C := RX5) (T := TX5) (M := 10) (fs := (oOR ad (σ.1 27))) hx hb hts (fun _ h9 => List.mem_cons_of_mem _ (List.mem_append_left _ (List.mem_append_right _ h9))) hown hK hP 27 (Nat.lt_of_lt_of_le (Nat.le_of_ble_eq_true rfl : 27 < 182) (Nat.le_add_right _ _)) (cC_27 _ _ _ _ _) rfl 5 (by decide) (hts (.fieldLink RX5 30 "SeatsRound$Orders" "least" "[I") (List.mem_of_getElem? (i := 2) rfl)) (fun _ h9 => h9) rfl dX5_nextOf_17 ?_
      refine lv_iload_n hx hb dX5_nextOf_20 rfl (lv_at hl 1 rfl) ?_
      refine ux_iald hx hb hK hP 31 0 (Nat.lt_of_lt_of_le (Nat.le_of_ble_eq_true rfl : 31 < 182) (Nat.le_add_right _ _)) (cC_31 _ _ _ _ _) rfl h dX5_nextOf_21 (fun v4 h => ?_)
      refine lv_icmp_ne (tgt := 37) hx hb dX5_nextOf_22 (by decide) (fun hcd => ?_) (fun hcd => ?_)
      · have h := cdN hcd h
        exact w37 _ ih σ x1 x2 H locs ls h hP hD hS hl
      · have h := cdP hcd h
        refine lv_aload_n hx hb dX5_nextOf_25 rfl (lv_at hl 0 rfl) ?_
        refine ux_get (D := (dC, dI)) (ci := 5) (v := .ref (ad 31)) (C := RX5) (T := TX5) (M := 10) (fs := (oOR ad (σ.1 27))) hx hb hts (fun _ h9 => List.mem_cons_of_mem _ (List.mem_append_left _ (List.mem_append_right _ h9))) hown hK hP 27 (Nat.lt_of_lt_of_le (Nat.le_of_ble_eq_true rfl : 27 < 182) (Nat.le_add_right _ _)) (cC_27 _ _ _ _ _) rfl 5 (by decide) (hts (.fieldLink RX5 30 "SeatsRound$Orders" "least" "[I") (List.mem_of_getElem? (i := 2) rfl)) (fun _ h9 => h9) rfl dX5_nextOf_26 ?_
        refine lv_iload_n hx hb dX5_nextOf_29 rfl (lv_at hl 1 rfl) ?_
        refine ux_iald hx hb hK hP 31 0 (Nat.lt_of_lt_of_le (Nat.le_of_ble_eq_true rfl : 31 < 182) (Nat.le_add_right _ _)) (cC_31 _ _ _ _ _) rfl h dX5_nextOf_30 (fun v5 h => ?_)
        refine lv_iconst (v := (-1)) hx hb dX5_nextOf_31 (by decide) ?_
        refine lv_icmp_eq (tgt := 37) hx hb dX5_nextOf_32 (by decide) (fun hcd => ?_) (fun hcd => ?_)
        · have h := cdP hcd h
          exact w37 _ ih σ x1 x2 H locs ls h hP hD hS hl
        · have h := cdN hcd h
          refine lv_iload_n hx hb dX5_nextOf_35 rfl (lv_at hl 2 rfl) ?_
          exact ux_iretP hx hb hr h hP hD hS hlocks dX5_nextOf_36
  have w0 : ∀ (σ : S2) (x1 : Int32) (H : Heap) (locs : List Loc) (ls : Array Slot), fX5_nextOf_0 τ σ x1 = some r0 → va_P (dC, dI) vwCl (wG (cC cy ad τ) ad (182 + 6 * nb) σ) H → va_D A (wG (cC cy ad τ) ad (182 + 6 * nb) σ) → va_S A s.heap H locs → lv_has ls 3 [(0, .ref (ad 27)), (1, .int x1)] → W p l e (headSpec wsX5_nextOf ({ frames := 3, cells := 0, slots := 0, locals := 68 })).room s m (#[.ref (ad 27), .int a1]) below meth c H locs 0 0 (MQ below (va_Qi (fun (r : Int32) (_ : Unit) => r = r0) (fun (_ : Unit) t => wAt (dC, dI) A (wG (cC cy ad τ) ad (182 + 6 * nb) σ) t) A) (#[.ref (ad 27), .int a1]) s 0 0 A) (F0 m 0 ls []) := by
    intro σ x1 H locs ls h hP hD hS hl
    unfold fX5_nextOf_0 at h
    refine lv_iconst (v := 0) hx hb dX5_nextOf_0 (by decide) ?_
    refine lv_istore_n (lv' := [(2, .int 0), (0, .ref (ad 27)), (1, .int x1)]) hx hb dX5_nextOf_1 rfl hl (by decide) rfl (fun ls hl => ?_)
    have hl := lv_sub hl [1, 2, 0] (l' := [(0, .ref (ad 27)), (1, .int x1), (2, .int 0)]) rfl
    exact w2 FU σ x1 0 H locs ls h hP hD hS hl
  intro H locs ls h hP hD hS hl
  exact w0 σ a1 H locs ls h hP hD hS (lv_sub hl [0, 1] rfl)

