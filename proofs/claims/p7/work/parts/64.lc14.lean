set_option maxHeartbeats 4000000 in
set_option maxRecDepth 100000 in
theorem lawc_14 {p : Program} {l : Launch} {e : Env} {s : State} {m : MethodId} {below : List Frame} {meth : Method} {c : Code} {A : Nat → Prop} {b L : Nat} {xs : Nat → Int32} {dC : Nat → ClassId} {dI : Nat → Nat → Nat} {cy : Nat → ClassId} {t : Nat} (C0 : lw_At p s m meth c b L xs) (hL : L ≤ 3072) (hAe : A = fun q : Nat => s.heap.size ≤ q) (hK : va_K (dC, dI) vwCl (tyl cy) s) (hN : NW s) (hZ : va_Z "SeatsRound" "KIND_ABOVE" "[I" (.ref t) A s s.heap) (hT : va_T .int t 7 (fun j => .int (kaI j)) A s s.heap) {i : Nat} (hi : i + 6 ≤ L) {τ : Nat} {ad adm : Nat → Nat} {σ σm : S2} {H : Heap} {locs : List Loc} {ls : Array Slot} {cells slots : Nat} (hP : va_P (dC, dI) vwCl (wG (cC cy ad τ) ad (182 + 6 * (τ + 1)) σ ++ wG (cM cy adm) adm 40 σm) H) (hD : va_D A (wG (cC cy ad τ) ad (182 + 6 * (τ + 1)) σ ++ wG (cM cy adm) adm 40 σm)) (hS : va_S A s.heap H locs) (hl : lv_has ls 4 [(3, .int (nI i)), (2, .ref (adm 0)), (1, .ref (ad 0)), (0, .ref b)]) (hC : IvC 0 τ σ) (hM : IvM 0 σm) (hR : RelL σ σm) (hc : cells ≤ 228 + i) (hs : slots ≤ 23896 + 353 * i) (kk : ∀ (τ : Nat) (ad adm : Nat → Nat) (σ σm : S2) (H : Heap) (locs : List Loc) (ls : Array Slot) (cells slots : Nat), va_P (dC, dI) vwCl (wG (cC cy ad τ) ad (182 + 6 * (τ + 1)) σ ++ wG (cM cy adm) adm 40 σm) H → va_D A (wG (cC cy ad τ) ad (182 + 6 * (τ + 1)) σ ++ wG (cM cy adm) adm 40 σm) → va_S A s.heap H locs → lv_has ls 4 [(3, .int (nI i)), (2, .ref (adm 0)), (1, .ref (ad 0)), (0, .ref b)] → IvC 0 τ σ → IvM 0 σm → RelL σ σm → cells ≤ 228 + (i + 6) → slots ≤ 23896 + 353 * (i + 6) → W p l e room_1 s m #[Value.ref b] below meth c H locs cells slots (lw_Z below #[Value.ref b] s) (F0 m 1635 ls [])) : W p l e room_1 s m #[Value.ref b] below meth c H locs cells slots (lw_Z below #[Value.ref b] s) (F0 m 674 ls []) := by
  obtain ⟨hx, hb, hr, hml, hown, hts, hX, hbl, hlocks, hgv⟩ := id C0
  have hown : s.vm.findClass RL = some m.cls := hown
  have hts := fun w h => hts w (wsL_law_in w h)
  have hA : ∀ q : Nat, s.heap.size ≤ q → A q := by rw [hAe]; exact fun _ h => h
  have hbA : ¬ A b := by rw [hAe]; exact Nat.not_le.mpr hbl
  have h10 : τ ≤ 10 := by have h9 : 0 ≤ (σ.1 0 6).toInt ∧ (σ.1 0 6).toInt ≤ 10 := hC.1 0 6; have := hC.2.2; omega
  have hC0 := hC
  have hM0 := hM
  refine lv_aload_n hx hb dL_law_674 rfl (lv_at hl 2 rfl) ?_
  refine lv_aload_n hx hb dL_law_675 rfl (lv_at hl 3 rfl) ?_
  refine lv_iload_n hx hb dL_law_676 rfl (lv_at hl 0 rfl) ?_
  refine lv_iconst (v := nI 1) hx hb dL_law_677 (by decide) ?_
  refine lv_iadd hx hb dL_law_678 ?_
  refine va_sld hx hb hX hbl hbA hS (sc_in (k := 1) (by omega) (by omega)) dL_law_679 ?_
  refine lv_topi (fun a1 ea1 => ?_)
  refine lv_aload_n hx hb dL_law_680 rfl (lv_at hl 3 rfl) ?_
  refine lv_iload_n hx hb dL_law_681 rfl (lv_at hl 0 rfl) ?_
  refine lv_iconst (v := nI 2) hx hb dL_law_682 (by decide) ?_
  refine lv_iadd hx hb dL_law_683 ?_
  refine va_sld hx hb hX hbl hbA hS (sc_in (k := 2) (by omega) (by omega)) dL_law_684 ?_
  refine lv_topi (fun a2 ea2 => ?_)
  refine lv_aload_n hx hb dL_law_685 rfl (lv_at hl 3 rfl) ?_
  refine lv_iload_n hx hb dL_law_686 rfl (lv_at hl 0 rfl) ?_
  refine lv_iconst (v := nI 3) hx hb dL_law_687 (by decide) ?_
  refine lv_iadd hx hb dL_law_688 ?_
  refine va_sld hx hb hX hbl hbA hS (sc_in (k := 3) (by omega) (by omega)) dL_law_689 ?_
  refine lv_topi (fun a3 ea3 => ?_)
  obtain ⟨⟨r4, σ4⟩, hf4, hq4⟩ := (sX11_moves τ σ a1 a2 a3 hC)
  have hPc := tb_lP hP
  have hDc := tb_lD hD
  have hFc := fr_A hDc hS hA
  refine va_calli (va_runV (As := [.int a1, .int a2, .int a3]) (rest := []) ⟨hx, hb, hml, hown, hts⟩ (tX11_moves l dC dI cy ad τ (τ + 1) (by omega) σ a1 a2 a3 H.size r4 σ4 hf4) (cwV 3 hts gL_law_X11_moves rfl rfl rfl (by decide +kernel) ⟨Nat.le_of_ble_eq_true rfl, Nat.le_of_ble_eq_true rfl⟩) (wp_V hK hN hPc hDc (va_recv hK hPc (ci := 11) (q0 := 0) rfl (wG_of (by omega) (cC_0 _ _ _ _ _)))) rfl rfl hl.1 rfl (lv_room (Nat.le_of_ble_eq_true rfl)) dL_law_690 ⟨by show cells + 0 ≤ 600000; omega, by show slots + 0 ≤ 7302250; omega⟩) hS (fun q _ h => hFc q h) hFc (fun r9 u9 t9 H1 locs ht hvm hw4 hB hz1 hk1 hS => ?_)
  obtain rfl : r4 = r9 := hw4.symm
  obtain ⟨hP1, hD1⟩ := hB
  rw [ht] at hP1
  obtain ⟨hP, hD⟩ := tb_fj hP hD hk1 hFc hP1 hD1
  generalize H1 = H at hP hS ⊢
  have hC : IvC 0 τ σ4 := by first | exact hq4 | exact hq4.1
  refine lv_pop hx hb dL_law_693 rfl ?_
  refine lv_aload_n hx hb dL_law_694 rfl (lv_at hl 1 rfl) ?_
  refine lv_aload_n hx hb dL_law_695 rfl (lv_at hl 3 rfl) ?_
  refine lv_iload_n hx hb dL_law_696 rfl (lv_at hl 0 rfl) ?_
  refine lv_iconst (v := nI 1) hx hb dL_law_697 (by decide) ?_
  refine lv_iadd hx hb dL_law_698 ?_
  refine va_sld hx hb hX hbl hbA hS (sc_in (k := 1) (by omega) (by omega)) dL_law_699 ?_
  refine lv_topi (fun a5 ea5 => ?_)
  obtain rfl : a1 = a5 := ea1.trans ea5.symm
  refine lv_aload_n hx hb dL_law_700 rfl (lv_at hl 3 rfl) ?_
  refine lv_iload_n hx hb dL_law_701 rfl (lv_at hl 0 rfl) ?_
  refine lv_iconst (v := nI 2) hx hb dL_law_702 (by decide) ?_
  refine lv_iadd hx hb dL_law_703 ?_
  refine va_sld hx hb hX hbl hbA hS (sc_in (k := 2) (by omega) (by omega)) dL_law_704 ?_
  refine lv_topi (fun a6 ea6 => ?_)
  obtain rfl : a2 = a6 := ea2.trans ea6.symm
  refine lv_aload_n hx hb dL_law_705 rfl (lv_at hl 3 rfl) ?_
  refine lv_iload_n hx hb dL_law_706 rfl (lv_at hl 0 rfl) ?_
  refine lv_iconst (v := nI 3) hx hb dL_law_707 (by decide) ?_
  refine lv_iadd hx hb dL_law_708 ?_
  refine va_sld hx hb hX hbl hbA hS (sc_in (k := 3) (by omega) (by omega)) dL_law_709 ?_
  refine lv_topi (fun a7 ea7 => ?_)
  obtain rfl : a3 = a7 := ea3.trans ea7.symm
  obtain ⟨⟨r8, ρ8⟩, hf8, hq8⟩ := (sX12_moves σm a1 a2 a3 hM)
  have hP := tb_swP hP
  have hD := tb_swD hD
  have hPc := tb_lP hP
  have hDc := tb_lD hD
  have hFc := fr_A hDc hS hA
  refine va_calli (va_runV (As := [.int a1, .int a2, .int a3]) (rest := []) ⟨hx, hb, hml, hown, hts⟩ (tX12_moves l dC dI cy adm σm a1 a2 a3 H.size r8 ρ8 hf8) (cwV 3 hts gL_law_X12_moves rfl rfl rfl (by decide +kernel) ⟨Nat.le_of_ble_eq_true rfl, Nat.le_of_ble_eq_true rfl⟩) (wp_V hK hN hPc hDc (va_recv hK hPc (ci := 12) (q0 := 0) rfl (wG_of (by omega) rfl))) rfl rfl hl.1 rfl (lv_room (Nat.le_of_ble_eq_true rfl)) dL_law_710 ⟨by show cells + 0 ≤ 600000; omega, by show slots + 0 ≤ 7302250; omega⟩) hS (fun q _ h => hFc q h) hFc (fun r9 u9 t9 H1 locs ht hvm hw8 hB hz1 hk1 hS => ?_)
  obtain rfl : r8 = r9 := hw8.symm
  obtain ⟨hP1, hD1⟩ := hB
  rw [ht] at hP1
  obtain ⟨hP, hD⟩ := tb_fj hP hD hk1 hFc hP1 hD1
  generalize H1 = H at hP hS ⊢
  have hP := tb_swP hP
  have hD := tb_swD hD
  have hM : IvM 0 ρ8 := by first | exact hq8 | exact hq8.1
  refine lv_pop hx hb dL_law_713 rfl ?_
  refine lv_goto (tgt := 1635) hx hb dL_law_714 (by decide) ?_
  exact kk τ ad adm σ4 ρ8 H locs ls _ _ hP hD hS hl hC hM (RelA.fr (a := 1) (b := 1) hR (wfX11_moves (m := 1) rfl _ _ _ _ _ (Fr.rf _) _ hf4) (wfX12_moves (m := 1) rfl _ _ _ _ (Fr.rf _) _ hf8) rfl rfl) (by omega) (by omega)

set_option maxHeartbeats 4000000 in
set_option maxRecDepth 100000 in
theorem lawc_15 {p : Program} {l : Launch} {e : Env} {s : State} {m : MethodId} {below : List Frame} {meth : Method} {c : Code} {A : Nat → Prop} {b L : Nat} {xs : Nat → Int32} {dC : Nat → ClassId} {dI : Nat → Nat → Nat} {cy : Nat → ClassId} {t : Nat} (C0 : lw_At p s m meth c b L xs) (hL : L ≤ 3072) (hAe : A = fun q : Nat => s.heap.size ≤ q) (hK : va_K (dC, dI) vwCl (tyl cy) s) (hN : NW s) (hZ : va_Z "SeatsRound" "KIND_ABOVE" "[I" (.ref t) A s s.heap) (hT : va_T .int t 7 (fun j => .int (kaI j)) A s s.heap) {i : Nat} (hi : i + 6 ≤ L) {τ : Nat} {ad adm : Nat → Nat} {σ σm : S2} {H : Heap} {locs : List Loc} {ls : Array Slot} {cells slots : Nat} (hP : va_P (dC, dI) vwCl (wG (cC cy ad τ) ad (182 + 6 * (τ + 1)) σ ++ wG (cM cy adm) adm 40 σm) H) (hD : va_D A (wG (cC cy ad τ) ad (182 + 6 * (τ + 1)) σ ++ wG (cM cy adm) adm 40 σm)) (hS : va_S A s.heap H locs) (hl : lv_has ls 4 [(3, .int (nI i)), (2, .ref (adm 0)), (1, .ref (ad 0)), (0, .ref b)]) (hC : IvC 0 τ σ) (hM : IvM 0 σm) (hR : RelL σ σm) (hc : cells ≤ 228 + i) (hs : slots ≤ 23896 + 353 * i) (kk : ∀ (τ : Nat) (ad adm : Nat → Nat) (σ σm : S2) (H : Heap) (locs : List Loc) (ls : Array Slot) (cells slots : Nat), va_P (dC, dI) vwCl (wG (cC cy ad τ) ad (182 + 6 * (τ + 1)) σ ++ wG (cM cy adm) adm 40 σm) H → va_D A (wG (cC cy ad τ) ad (182 + 6 * (τ + 1)) σ ++ wG (cM cy adm) adm 40 σm) → va_S A s.heap H locs → lv_has ls 4 [(3, .int (nI i)), (2, .ref (adm 0)), (1, .ref (ad 0)), (0, .ref b)] → IvC 0 τ σ → IvM 0 σm → RelL σ σm → cells ≤ 228 + (i + 6) → slots ≤ 23896 + 353 * (i + 6) → W p l e room_1 s m #[Value.ref b] below meth c H locs cells slots (lw_Z below #[Value.ref b] s) (F0 m 1635 ls [])) : W p l e room_1 s m #[Value.ref b] below meth c H locs cells slots (lw_Z below #[Value.ref b] s) (F0 m 717 ls []) := by
  obtain ⟨hx, hb, hr, hml, hown, hts, hX, hbl, hlocks, hgv⟩ := id C0
  have hown : s.vm.findClass RL = some m.cls := hown
  have hts := fun w h => hts w (wsL_law_in w h)
  have hA : ∀ q : Nat, s.heap.size ≤ q → A q := by rw [hAe]; exact fun _ h => h
  have hbA : ¬ A b := by rw [hAe]; exact Nat.not_le.mpr hbl
  have h10 : τ ≤ 10 := by have h9 : 0 ≤ (σ.1 0 6).toInt ∧ (σ.1 0 6).toInt ≤ 10 := hC.1 0 6; have := hC.2.2; omega
  have hC0 := hC
  have hM0 := hM
  refine lv_aload_n hx hb dL_law_717 rfl (lv_at hl 2 rfl) ?_
  refine lv_aload_n hx hb dL_law_718 rfl (lv_at hl 3 rfl) ?_
  refine lv_iload_n hx hb dL_law_719 rfl (lv_at hl 0 rfl) ?_
  refine lv_iconst (v := nI 1) hx hb dL_law_720 (by decide) ?_
  refine lv_iadd hx hb dL_law_721 ?_
  refine va_sld hx hb hX hbl hbA hS (sc_in (k := 1) (by omega) (by omega)) dL_law_722 ?_
  refine lv_topi (fun a1 ea1 => ?_)
  refine lv_aload_n hx hb dL_law_723 rfl (lv_at hl 3 rfl) ?_
  refine lv_iload_n hx hb dL_law_724 rfl (lv_at hl 0 rfl) ?_
  refine lv_iconst (v := nI 2) hx hb dL_law_725 (by decide) ?_
  refine lv_iadd hx hb dL_law_726 ?_
  refine va_sld hx hb hX hbl hbA hS (sc_in (k := 2) (by omega) (by omega)) dL_law_727 ?_
  refine lv_topi (fun a2 ea2 => ?_)
  obtain ⟨⟨r3, σ3⟩, hf3, hq3⟩ := (sX11_knows τ σ a1 a2 hC)
  have hPc := tb_lP hP
  have hDc := tb_lD hD
  have hFc := fr_A hDc hS hA
  refine va_calli (va_runV (As := [.int a1, .int a2]) (rest := []) ⟨hx, hb, hml, hown, hts⟩ (tX11_knows l dC dI cy ad τ (τ + 1) (by omega) σ a1 a2 H.size r3 σ3 hf3) (cwV 2 hts gL_law_X11_knows rfl rfl rfl (by decide +kernel) ⟨Nat.le_of_ble_eq_true rfl, Nat.le_of_ble_eq_true rfl⟩) (wp_V hK hN hPc hDc (va_recv hK hPc (ci := 11) (q0 := 0) rfl (wG_of (by omega) (cC_0 _ _ _ _ _)))) rfl rfl hl.1 rfl (lv_room (Nat.le_of_ble_eq_true rfl)) dL_law_728 ⟨by show cells + 0 ≤ 600000; omega, by show slots + 0 ≤ 7302250; omega⟩) hS (fun q _ h => hFc q h) hFc (fun r9 u9 t9 H1 locs ht hvm hw3 hB hz1 hk1 hS => ?_)
  obtain rfl : r3 = r9 := hw3.symm
  obtain ⟨hP1, hD1⟩ := hB
  rw [ht] at hP1
  obtain ⟨hP, hD⟩ := tb_fj hP hD hk1 hFc hP1 hD1
  generalize H1 = H at hP hS ⊢
  have hC : IvC 0 τ σ3 := by first | exact hq3 | exact hq3.1
  refine lv_pop hx hb dL_law_731 rfl ?_
  refine lv_aload_n hx hb dL_law_732 rfl (lv_at hl 1 rfl) ?_
  refine lv_aload_n hx hb dL_law_733 rfl (lv_at hl 3 rfl) ?_
  refine lv_iload_n hx hb dL_law_734 rfl (lv_at hl 0 rfl) ?_
  refine lv_iconst (v := nI 1) hx hb dL_law_735 (by decide) ?_
  refine lv_iadd hx hb dL_law_736 ?_
  refine va_sld hx hb hX hbl hbA hS (sc_in (k := 1) (by omega) (by omega)) dL_law_737 ?_
  refine lv_topi (fun a4 ea4 => ?_)
  obtain rfl : a1 = a4 := ea1.trans ea4.symm
  refine lv_aload_n hx hb dL_law_738 rfl (lv_at hl 3 rfl) ?_
  refine lv_iload_n hx hb dL_law_739 rfl (lv_at hl 0 rfl) ?_
  refine lv_iconst (v := nI 2) hx hb dL_law_740 (by decide) ?_
  refine lv_iadd hx hb dL_law_741 ?_
  refine va_sld hx hb hX hbl hbA hS (sc_in (k := 2) (by omega) (by omega)) dL_law_742 ?_
  refine lv_topi (fun a5 ea5 => ?_)
  obtain rfl : a2 = a5 := ea2.trans ea5.symm
  obtain ⟨⟨r6, ρ6⟩, hf6, hq6⟩ := (sX12_knows σm a1 a2 hM)
  have hP := tb_swP hP
  have hD := tb_swD hD
  have hPc := tb_lP hP
  have hDc := tb_lD hD
  have hFc := fr_A hDc hS hA
  refine va_calli (va_runV (As := [.int a1, .int a2]) (rest := []) ⟨hx, hb, hml, hown, hts⟩ (tX12_knows l dC dI cy adm σm a1 a2 H.size r6 ρ6 hf6) (cwV 2 hts gL_law_X12_knows rfl rfl rfl (by decide +kernel) ⟨Nat.le_of_ble_eq_true rfl, Nat.le_of_ble_eq_true rfl⟩) (wp_V hK hN hPc hDc (va_recv hK hPc (ci := 12) (q0 := 0) rfl (wG_of (by omega) rfl))) rfl rfl hl.1 rfl (lv_room (Nat.le_of_ble_eq_true rfl)) dL_law_743 ⟨by show cells + 0 ≤ 600000; omega, by show slots + 0 ≤ 7302250; omega⟩) hS (fun q _ h => hFc q h) hFc (fun r9 u9 t9 H1 locs ht hvm hw6 hB hz1 hk1 hS => ?_)
  obtain rfl : r6 = r9 := hw6.symm
  obtain ⟨hP1, hD1⟩ := hB
  rw [ht] at hP1
  obtain ⟨hP, hD⟩ := tb_fj hP hD hk1 hFc hP1 hD1
  generalize H1 = H at hP hS ⊢
  have hP := tb_swP hP
  have hD := tb_swD hD
  have hM : IvM 0 ρ6 := by first | exact hq6 | exact hq6.1
  refine lv_pop hx hb dL_law_746 rfl ?_
  refine lv_goto (tgt := 1635) hx hb dL_law_747 (by decide) ?_
  exact kk τ ad adm σ3 ρ6 H locs ls _ _ hP hD hS hl hC hM (RelA.fr (a := 128) (b := 128) hR (wfX11_knows (m := 128) rfl _ _ _ _ (Fr.rf _) _ hf3) (wfX12_knows (m := 128) rfl _ _ _ (Fr.rf _) _ hf6) rfl rfl) (by omega) (by omega)

set_option maxHeartbeats 4000000 in
set_option maxRecDepth 100000 in
theorem lawc_16 {p : Program} {l : Launch} {e : Env} {s : State} {m : MethodId} {below : List Frame} {meth : Method} {c : Code} {A : Nat → Prop} {b L : Nat} {xs : Nat → Int32} {dC : Nat → ClassId} {dI : Nat → Nat → Nat} {cy : Nat → ClassId} {t : Nat} (C0 : lw_At p s m meth c b L xs) (hL : L ≤ 3072) (hAe : A = fun q : Nat => s.heap.size ≤ q) (hK : va_K (dC, dI) vwCl (tyl cy) s) (hN : NW s) (hZ : va_Z "SeatsRound" "KIND_ABOVE" "[I" (.ref t) A s s.heap) (hT : va_T .int t 7 (fun j => .int (kaI j)) A s s.heap) {i : Nat} (hi : i + 6 ≤ L) {τ : Nat} {ad adm : Nat → Nat} {σ σm : S2} {H : Heap} {locs : List Loc} {ls : Array Slot} {cells slots : Nat} (hP : va_P (dC, dI) vwCl (wG (cC cy ad τ) ad (182 + 6 * (τ + 1)) σ ++ wG (cM cy adm) adm 40 σm) H) (hD : va_D A (wG (cC cy ad τ) ad (182 + 6 * (τ + 1)) σ ++ wG (cM cy adm) adm 40 σm)) (hS : va_S A s.heap H locs) (hl : lv_has ls 4 [(3, .int (nI i)), (2, .ref (adm 0)), (1, .ref (ad 0)), (0, .ref b)]) (hC : IvC 0 τ σ) (hM : IvM 0 σm) (hR : RelL σ σm) (hc : cells ≤ 228 + i) (hs : slots ≤ 23896 + 353 * i) (kk : ∀ (τ : Nat) (ad adm : Nat → Nat) (σ σm : S2) (H : Heap) (locs : List Loc) (ls : Array Slot) (cells slots : Nat), va_P (dC, dI) vwCl (wG (cC cy ad τ) ad (182 + 6 * (τ + 1)) σ ++ wG (cM cy adm) adm 40 σm) H → va_D A (wG (cC cy ad τ) ad (182 + 6 * (τ + 1)) σ ++ wG (cM cy adm) adm 40 σm) → va_S A s.heap H locs → lv_has ls 4 [(3, .int (nI i)), (2, .ref (adm 0)), (1, .ref (ad 0)), (0, .ref b)] → IvC 0 τ σ → IvM 0 σm → RelL σ σm → cells ≤ 228 + (i + 6) → slots ≤ 23896 + 353 * (i + 6) → W p l e room_1 s m #[Value.ref b] below meth c H locs cells slots (lw_Z below #[Value.ref b] s) (F0 m 1635 ls [])) : W p l e room_1 s m #[Value.ref b] below meth c H locs cells slots (lw_Z below #[Value.ref b] s) (F0 m 750 ls []) := by
  obtain ⟨hx, hb, hr, hml, hown, hts, hX, hbl, hlocks, hgv⟩ := id C0
  have hown : s.vm.findClass RL = some m.cls := hown
  have hts := fun w h => hts w (wsL_law_in w h)
  have hA : ∀ q : Nat, s.heap.size ≤ q → A q := by rw [hAe]; exact fun _ h => h
  have hbA : ¬ A b := by rw [hAe]; exact Nat.not_le.mpr hbl
  have h10 : τ ≤ 10 := by have h9 : 0 ≤ (σ.1 0 6).toInt ∧ (σ.1 0 6).toInt ≤ 10 := hC.1 0 6; have := hC.2.2; omega
  have hC0 := hC
  have hM0 := hM
  refine lv_aload_n hx hb dL_law_750 rfl (lv_at hl 2 rfl) ?_
  refine lv_aload_n hx hb dL_law_751 rfl (lv_at hl 3 rfl) ?_
  refine lv_iload_n hx hb dL_law_752 rfl (lv_at hl 0 rfl) ?_
  refine lv_iconst (v := nI 1) hx hb dL_law_753 (by decide) ?_
  refine lv_iadd hx hb dL_law_754 ?_
  refine va_sld hx hb hX hbl hbA hS (sc_in (k := 1) (by omega) (by omega)) dL_law_755 ?_
  refine lv_topi (fun a1 ea1 => ?_)
  refine lv_aload_n hx hb dL_law_756 rfl (lv_at hl 3 rfl) ?_
  refine lv_iload_n hx hb dL_law_757 rfl (lv_at hl 0 rfl) ?_
  refine lv_iconst (v := nI 2) hx hb dL_law_758 (by decide) ?_
  refine lv_iadd hx hb dL_law_759 ?_
  refine va_sld hx hb hX hbl hbA hS (sc_in (k := 2) (by omega) (by omega)) dL_law_760 ?_
  refine lv_topi (fun a2 ea2 => ?_)
  obtain ⟨⟨r3, σ3⟩, hf3, hq3⟩ := (sX11_write τ σ a1 a2 hC)
  have hPc := tb_lP hP
  have hDc := tb_lD hD
  have hFc := fr_A hDc hS hA
  refine va_calli (va_runV (As := [.int a1, .int a2]) (rest := []) ⟨hx, hb, hml, hown, hts⟩ (tX11_write l dC dI cy ad τ (τ + 1) (by omega) σ a1 a2 H.size r3 σ3 hf3) (cwV 2 hts gL_law_X11_write rfl rfl rfl (by decide +kernel) ⟨Nat.le_of_ble_eq_true rfl, Nat.le_of_ble_eq_true rfl⟩) (wp_V hK hN hPc hDc (va_recv hK hPc (ci := 11) (q0 := 0) rfl (wG_of (by omega) (cC_0 _ _ _ _ _)))) rfl rfl hl.1 rfl (lv_room (Nat.le_of_ble_eq_true rfl)) dL_law_761 ⟨by show cells + 0 ≤ 600000; omega, by show slots + 0 ≤ 7302250; omega⟩) hS (fun q _ h => hFc q h) hFc (fun r9 u9 t9 H1 locs ht hvm hw3 hB hz1 hk1 hS => ?_)
  obtain rfl : r3 = r9 := hw3.symm
  obtain ⟨hP1, hD1⟩ := hB
  rw [ht] at hP1
  obtain ⟨hP, hD⟩ := tb_fj hP hD hk1 hFc hP1 hD1
  generalize H1 = H at hP hS ⊢
  have hC : IvC 0 τ σ3 := by first | exact hq3 | exact hq3.1
  refine lv_pop hx hb dL_law_764 rfl ?_
  refine lv_aload_n hx hb dL_law_765 rfl (lv_at hl 1 rfl) ?_
  refine lv_aload_n hx hb dL_law_766 rfl (lv_at hl 3 rfl) ?_
  refine lv_iload_n hx hb dL_law_767 rfl (lv_at hl 0 rfl) ?_
  refine lv_iconst (v := nI 1) hx hb dL_law_768 (by decide) ?_
  refine lv_iadd hx hb dL_law_769 ?_
  refine va_sld hx hb hX hbl hbA hS (sc_in (k := 1) (by omega) (by omega)) dL_law_770 ?_
  refine lv_topi (fun a4 ea4 => ?_)
  obtain rfl : a1 = a4 := ea1.trans ea4.symm
  refine lv_aload_n hx hb dL_law_771 rfl (lv_at hl 3 rfl) ?_
  refine lv_iload_n hx hb dL_law_772 rfl (lv_at hl 0 rfl) ?_
  refine lv_iconst (v := nI 2) hx hb dL_law_773 (by decide) ?_
  refine lv_iadd hx hb dL_law_774 ?_
  refine va_sld hx hb hX hbl hbA hS (sc_in (k := 2) (by omega) (by omega)) dL_law_775 ?_
  refine lv_topi (fun a5 ea5 => ?_)
  obtain rfl : a2 = a5 := ea2.trans ea5.symm
  obtain ⟨⟨r6, ρ6⟩, hf6, hq6⟩ := (sX12_write σm a1 a2 hM)
  have hP := tb_swP hP
  have hD := tb_swD hD
  have hPc := tb_lP hP
  have hDc := tb_lD hD
  have hFc := fr_A hDc hS hA
  refine va_calli (va_runV (As := [.int a1, .int a2]) (rest := []) ⟨hx, hb, hml, hown, hts⟩ (tX12_write l dC dI cy adm σm a1 a2 H.size r6 ρ6 hf6) (cwV 2 hts gL_law_X12_write rfl rfl rfl (by decide +kernel) ⟨Nat.le_of_ble_eq_true rfl, Nat.le_of_ble_eq_true rfl⟩) (wp_V hK hN hPc hDc (va_recv hK hPc (ci := 12) (q0 := 0) rfl (wG_of (by omega) rfl))) rfl rfl hl.1 rfl (lv_room (Nat.le_of_ble_eq_true rfl)) dL_law_776 ⟨by show cells + 0 ≤ 600000; omega, by show slots + 0 ≤ 7302250; omega⟩) hS (fun q _ h => hFc q h) hFc (fun r9 u9 t9 H1 locs ht hvm hw6 hB hz1 hk1 hS => ?_)
  obtain rfl : r6 = r9 := hw6.symm
  obtain ⟨hP1, hD1⟩ := hB
  rw [ht] at hP1
  obtain ⟨hP, hD⟩ := tb_fj hP hD hk1 hFc hP1 hD1
  generalize H1 = H at hP hS ⊢
  have hP := tb_swP hP
  have hD := tb_swD hD
  have hM : IvM 0 ρ6 := by first | exact hq6 | exact hq6.1
  refine lv_pop hx hb dL_law_779 rfl ?_
  refine lv_goto (tgt := 1635) hx hb dL_law_780 (by decide) ?_
  exact kk τ ad adm σ3 ρ6 H locs ls _ _ hP hD hS hl hC hM (RelA.fr (a := 55297) (b := 55297) hR (wfX11_write (m := 55297) rfl _ _ _ _ (Fr.rf _) _ hf3) (wfX12_write (m := 55297) rfl _ _ _ (Fr.rf _) _ hf6) rfl rfl) (by omega) (by omega)

set_option maxHeartbeats 4000000 in
set_option maxRecDepth 100000 in
theorem lawc_17 {p : Program} {l : Launch} {e : Env} {s : State} {m : MethodId} {below : List Frame} {meth : Method} {c : Code} {A : Nat → Prop} {b L : Nat} {xs : Nat → Int32} {dC : Nat → ClassId} {dI : Nat → Nat → Nat} {cy : Nat → ClassId} {t : Nat} (C0 : lw_At p s m meth c b L xs) (hL : L ≤ 3072) (hAe : A = fun q : Nat => s.heap.size ≤ q) (hK : va_K (dC, dI) vwCl (tyl cy) s) (hN : NW s) (hZ : va_Z "SeatsRound" "KIND_ABOVE" "[I" (.ref t) A s s.heap) (hT : va_T .int t 7 (fun j => .int (kaI j)) A s s.heap) {i : Nat} (hi : i + 6 ≤ L) {τ : Nat} {ad adm : Nat → Nat} {σ σm : S2} {H : Heap} {locs : List Loc} {ls : Array Slot} {cells slots : Nat} (hP : va_P (dC, dI) vwCl (wG (cC cy ad τ) ad (182 + 6 * (τ + 1)) σ ++ wG (cM cy adm) adm 40 σm) H) (hD : va_D A (wG (cC cy ad τ) ad (182 + 6 * (τ + 1)) σ ++ wG (cM cy adm) adm 40 σm)) (hS : va_S A s.heap H locs) (hl : lv_has ls 4 [(3, .int (nI i)), (2, .ref (adm 0)), (1, .ref (ad 0)), (0, .ref b)]) (hC : IvC 0 τ σ) (hM : IvM 0 σm) (hR : RelL σ σm) (hc : cells ≤ 228 + i) (hs : slots ≤ 23896 + 353 * i) (kk : ∀ (τ : Nat) (ad adm : Nat → Nat) (σ σm : S2) (H : Heap) (locs : List Loc) (ls : Array Slot) (cells slots : Nat), va_P (dC, dI) vwCl (wG (cC cy ad τ) ad (182 + 6 * (τ + 1)) σ ++ wG (cM cy adm) adm 40 σm) H → va_D A (wG (cC cy ad τ) ad (182 + 6 * (τ + 1)) σ ++ wG (cM cy adm) adm 40 σm) → va_S A s.heap H locs → lv_has ls 4 [(3, .int (nI i)), (2, .ref (adm 0)), (1, .ref (ad 0)), (0, .ref b)] → IvC 0 τ σ → IvM 0 σm → RelL σ σm → cells ≤ 228 + (i + 6) → slots ≤ 23896 + 353 * (i + 6) → W p l e room_1 s m #[Value.ref b] below meth c H locs cells slots (lw_Z below #[Value.ref b] s) (F0 m 1635 ls [])) : W p l e room_1 s m #[Value.ref b] below meth c H locs cells slots (lw_Z below #[Value.ref b] s) (F0 m 783 ls []) := by
  obtain ⟨hx, hb, hr, hml, hown, hts, hX, hbl, hlocks, hgv⟩ := id C0
  have hown : s.vm.findClass RL = some m.cls := hown
  have hts := fun w h => hts w (wsL_law_in w h)
  have hA : ∀ q : Nat, s.heap.size ≤ q → A q := by rw [hAe]; exact fun _ h => h
  have hbA : ¬ A b := by rw [hAe]; exact Nat.not_le.mpr hbl
  have h10 : τ ≤ 10 := by have h9 : 0 ≤ (σ.1 0 6).toInt ∧ (σ.1 0 6).toInt ≤ 10 := hC.1 0 6; have := hC.2.2; omega
  have hC0 := hC
  have hM0 := hM
  refine lv_aload_n hx hb dL_law_783 rfl (lv_at hl 2 rfl) ?_
  refine lv_aload_n hx hb dL_law_784 rfl (lv_at hl 3 rfl) ?_
  refine lv_iload_n hx hb dL_law_785 rfl (lv_at hl 0 rfl) ?_
  refine lv_iconst (v := nI 1) hx hb dL_law_786 (by decide) ?_
  refine lv_iadd hx hb dL_law_787 ?_
  refine va_sld hx hb hX hbl hbA hS (sc_in (k := 1) (by omega) (by omega)) dL_law_788 ?_
  refine lv_topi (fun a1 ea1 => ?_)
  refine lv_aload_n hx hb dL_law_789 rfl (lv_at hl 3 rfl) ?_
  refine lv_iload_n hx hb dL_law_790 rfl (lv_at hl 0 rfl) ?_
  refine lv_iconst (v := nI 2) hx hb dL_law_791 (by decide) ?_
  refine lv_iadd hx hb dL_law_792 ?_
  refine va_sld hx hb hX hbl hbA hS (sc_in (k := 2) (by omega) (by omega)) dL_law_793 ?_
  refine lv_topi (fun a2 ea2 => ?_)
  obtain ⟨⟨r3, σ3⟩, hf3, hq3⟩ := (sX11_read τ σ a1 a2 hC)
  have hPc := tb_lP hP
  have hDc := tb_lD hD
  have hFc := fr_A hDc hS hA
  refine va_calli (va_runV (As := [.int a1, .int a2]) (rest := []) ⟨hx, hb, hml, hown, hts⟩ (tX11_read l dC dI cy ad τ (τ + 1) (by omega) σ a1 a2 H.size r3 σ3 hf3) (cwV 2 hts gL_law_X11_read rfl rfl rfl (by decide +kernel) ⟨Nat.le_of_ble_eq_true rfl, Nat.le_of_ble_eq_true rfl⟩) (wp_V hK hN hPc hDc (va_recv hK hPc (ci := 11) (q0 := 0) rfl (wG_of (by omega) (cC_0 _ _ _ _ _)))) rfl rfl hl.1 rfl (lv_room (Nat.le_of_ble_eq_true rfl)) dL_law_794 ⟨by show cells + 0 ≤ 600000; omega, by show slots + 0 ≤ 7302250; omega⟩) hS (fun q _ h => hFc q h) hFc (fun r9 u9 t9 H1 locs ht hvm hw3 hB hz1 hk1 hS => ?_)
  obtain rfl : r3 = r9 := hw3.symm
  obtain ⟨hP1, hD1⟩ := hB
  rw [ht] at hP1
  obtain ⟨hP, hD⟩ := tb_fj hP hD hk1 hFc hP1 hD1
  generalize H1 = H at hP hS ⊢
  have hC : IvC 0 τ σ3 := by first | exact hq3 | exact hq3.1
  refine lv_pop hx hb dL_law_797 rfl ?_
  refine lv_aload_n hx hb dL_law_798 rfl (lv_at hl 1 rfl) ?_
  refine lv_aload_n hx hb dL_law_799 rfl (lv_at hl 3 rfl) ?_
  refine lv_iload_n hx hb dL_law_800 rfl (lv_at hl 0 rfl) ?_
  refine lv_iconst (v := nI 1) hx hb dL_law_801 (by decide) ?_
  refine lv_iadd hx hb dL_law_802 ?_
  refine va_sld hx hb hX hbl hbA hS (sc_in (k := 1) (by omega) (by omega)) dL_law_803 ?_
  refine lv_topi (fun a4 ea4 => ?_)
  obtain rfl : a1 = a4 := ea1.trans ea4.symm
  refine lv_aload_n hx hb dL_law_804 rfl (lv_at hl 3 rfl) ?_
  refine lv_iload_n hx hb dL_law_805 rfl (lv_at hl 0 rfl) ?_
  refine lv_iconst (v := nI 2) hx hb dL_law_806 (by decide) ?_
  refine lv_iadd hx hb dL_law_807 ?_
  refine va_sld hx hb hX hbl hbA hS (sc_in (k := 2) (by omega) (by omega)) dL_law_808 ?_
  refine lv_topi (fun a5 ea5 => ?_)
  obtain rfl : a2 = a5 := ea2.trans ea5.symm
  obtain ⟨⟨r6, ρ6⟩, hf6, hq6⟩ := (sX12_read σm a1 a2 hM)
  have hP := tb_swP hP
  have hD := tb_swD hD
  have hPc := tb_lP hP
  have hDc := tb_lD hD
  have hFc := fr_A hDc hS hA
  refine va_calli (va_runV (As := [.int a1, .int a2]) (rest := []) ⟨hx, hb, hml, hown, hts⟩ (tX12_read l dC dI cy adm σm a1 a2 H.size r6 ρ6 hf6) (cwV 2 hts gL_law_X12_read rfl rfl rfl (by decide +kernel) ⟨Nat.le_of_ble_eq_true rfl, Nat.le_of_ble_eq_true rfl⟩) (wp_V hK hN hPc hDc (va_recv hK hPc (ci := 12) (q0 := 0) rfl (wG_of (by omega) rfl))) rfl rfl hl.1 rfl (lv_room (Nat.le_of_ble_eq_true rfl)) dL_law_809 ⟨by show cells + 0 ≤ 600000; omega, by show slots + 0 ≤ 7302250; omega⟩) hS (fun q _ h => hFc q h) hFc (fun r9 u9 t9 H1 locs ht hvm hw6 hB hz1 hk1 hS => ?_)
  obtain rfl : r6 = r9 := hw6.symm
  obtain ⟨hP1, hD1⟩ := hB
  rw [ht] at hP1
  obtain ⟨hP, hD⟩ := tb_fj hP hD hk1 hFc hP1 hD1
  generalize H1 = H at hP hS ⊢
  have hP := tb_swP hP
  have hD := tb_swD hD
  have hM : IvM 0 ρ6 := by first | exact hq6 | exact hq6.1
  refine lv_pop hx hb dL_law_812 rfl ?_
  refine lv_goto (tgt := 1635) hx hb dL_law_813 (by decide) ?_
  exact kk τ ad adm σ3 ρ6 H locs ls _ _ hP hD hS hl hC hM (RelA.fr (a := 1) (b := 1) hR (wfX11_read (m := 1) rfl _ _ _ _ (Fr.rf _) _ hf3) (wfX12_read (m := 1) rfl _ _ _ (Fr.rf _) _ hf6) rfl rfl) (by omega) (by omega)

set_option maxHeartbeats 4000000 in
set_option maxRecDepth 100000 in
theorem lawc_18 {p : Program} {l : Launch} {e : Env} {s : State} {m : MethodId} {below : List Frame} {meth : Method} {c : Code} {A : Nat → Prop} {b L : Nat} {xs : Nat → Int32} {dC : Nat → ClassId} {dI : Nat → Nat → Nat} {cy : Nat → ClassId} {t : Nat} (C0 : lw_At p s m meth c b L xs) (hL : L ≤ 3072) (hAe : A = fun q : Nat => s.heap.size ≤ q) (hK : va_K (dC, dI) vwCl (tyl cy) s) (hN : NW s) (hZ : va_Z "SeatsRound" "KIND_ABOVE" "[I" (.ref t) A s s.heap) (hT : va_T .int t 7 (fun j => .int (kaI j)) A s s.heap) {i : Nat} (hi : i + 6 ≤ L) {τ : Nat} {ad adm : Nat → Nat} {σ σm : S2} {H : Heap} {locs : List Loc} {ls : Array Slot} {cells slots : Nat} (hP : va_P (dC, dI) vwCl (wG (cC cy ad τ) ad (182 + 6 * (τ + 1)) σ ++ wG (cM cy adm) adm 40 σm) H) (hD : va_D A (wG (cC cy ad τ) ad (182 + 6 * (τ + 1)) σ ++ wG (cM cy adm) adm 40 σm)) (hS : va_S A s.heap H locs) (hl : lv_has ls 4 [(3, .int (nI i)), (2, .ref (adm 0)), (1, .ref (ad 0)), (0, .ref b)]) (hC : IvC 0 τ σ) (hM : IvM 0 σm) (hR : RelL σ σm) (hc : cells ≤ 228 + i) (hs : slots ≤ 23896 + 353 * i) (kk : ∀ (τ : Nat) (ad adm : Nat → Nat) (σ σm : S2) (H : Heap) (locs : List Loc) (ls : Array Slot) (cells slots : Nat), va_P (dC, dI) vwCl (wG (cC cy ad τ) ad (182 + 6 * (τ + 1)) σ ++ wG (cM cy adm) adm 40 σm) H → va_D A (wG (cC cy ad τ) ad (182 + 6 * (τ + 1)) σ ++ wG (cM cy adm) adm 40 σm) → va_S A s.heap H locs → lv_has ls 4 [(3, .int (nI i)), (2, .ref (adm 0)), (1, .ref (ad 0)), (0, .ref b)] → IvC 0 τ σ → IvM 0 σm → RelL σ σm → cells ≤ 228 + (i + 6) → slots ≤ 23896 + 353 * (i + 6) → W p l e room_1 s m #[Value.ref b] below meth c H locs cells slots (lw_Z below #[Value.ref b] s) (F0 m 1635 ls [])) : W p l e room_1 s m #[Value.ref b] below meth c H locs cells slots (lw_Z below #[Value.ref b] s) (F0 m 816 ls []) := by
  obtain ⟨hx, hb, hr, hml, hown, hts, hX, hbl, hlocks, hgv⟩ := id C0
  have hown : s.vm.findClass RL = some m.cls := hown
  have hts := fun w h => hts w (wsL_law_in w h)
  have hA : ∀ q : Nat, s.heap.size ≤ q → A q := by rw [hAe]; exact fun _ h => h
  have hbA : ¬ A b := by rw [hAe]; exact Nat.not_le.mpr hbl
  have h10 : τ ≤ 10 := by have h9 : 0 ≤ (σ.1 0 6).toInt ∧ (σ.1 0 6).toInt ≤ 10 := hC.1 0 6; have := hC.2.2; omega
  have hC0 := hC
  have hM0 := hM
  refine lv_aload_n hx hb dL_law_816 rfl (lv_at hl 2 rfl) ?_
  refine lv_aload_n hx hb dL_law_817 rfl (lv_at hl 3 rfl) ?_
  refine lv_iload_n hx hb dL_law_818 rfl (lv_at hl 0 rfl) ?_
  refine lv_iconst (v := nI 1) hx hb dL_law_819 (by decide) ?_
  refine lv_iadd hx hb dL_law_820 ?_
  refine va_sld hx hb hX hbl hbA hS (sc_in (k := 1) (by omega) (by omega)) dL_law_821 ?_
  refine lv_topi (fun a1 ea1 => ?_)
  refine lv_aload_n hx hb dL_law_822 rfl (lv_at hl 3 rfl) ?_
  refine lv_iload_n hx hb dL_law_823 rfl (lv_at hl 0 rfl) ?_
  refine lv_iconst (v := nI 2) hx hb dL_law_824 (by decide) ?_
  refine lv_iadd hx hb dL_law_825 ?_
  refine va_sld hx hb hX hbl hbA hS (sc_in (k := 2) (by omega) (by omega)) dL_law_826 ?_
  refine lv_topi (fun a2 ea2 => ?_)
  refine lv_aload_n hx hb dL_law_827 rfl (lv_at hl 3 rfl) ?_
  refine lv_iload_n hx hb dL_law_828 rfl (lv_at hl 0 rfl) ?_
  refine lv_iconst (v := nI 3) hx hb dL_law_829 (by decide) ?_
  refine lv_iadd hx hb dL_law_830 ?_
  refine va_sld hx hb hX hbl hbA hS (sc_in (k := 3) (by omega) (by omega)) dL_law_831 ?_
  refine lv_topi (fun a3 ea3 => ?_)
  obtain ⟨r4, hf4, hq4⟩ := (sX11_onShelf τ σ a1 a2 a3 hC)
  have hPc := tb_lP hP
  have hDc := tb_lD hD
  have hFc := fr_A hDc hS hA
  refine va_calli (va_runV (As := [.int a1, .int a2, .int a3]) (rest := []) ⟨hx, hb, hml, hown, hts⟩ (tX11_onShelf l dC dI cy ad τ (τ + 1) (by omega) σ a1 a2 a3 H.size r4 hf4) (cwV 3 hts gL_law_X11_onShelf rfl rfl rfl (by decide +kernel) ⟨Nat.le_of_ble_eq_true rfl, Nat.le_of_ble_eq_true rfl⟩) (wp_V hK hN hPc hDc (va_recv hK hPc (ci := 11) (q0 := 0) rfl (wG_of (by omega) (cC_0 _ _ _ _ _)))) rfl rfl hl.1 rfl (lv_room (Nat.le_of_ble_eq_true rfl)) dL_law_832 ⟨by show cells + 0 ≤ 600000; omega, by show slots + 0 ≤ 7302250; omega⟩) hS (fun q _ h => hFc q h) hFc (fun r9 u9 t9 H1 locs ht hvm hw4 hB hz1 hk1 hS => ?_)
  obtain rfl : r4 = r9 := hw4.symm
  obtain ⟨hP1, hD1⟩ := hB
  rw [ht] at hP1
  obtain ⟨hP, hD⟩ := tb_fj hP hD hk1 hFc hP1 hD1
  generalize H1 = H at hP hS ⊢
  refine lv_pop hx hb dL_law_835 rfl ?_
  refine lv_aload_n hx hb dL_law_836 rfl (lv_at hl 1 rfl) ?_
  refine lv_aload_n hx hb dL_law_837 rfl (lv_at hl 3 rfl) ?_
  refine lv_iload_n hx hb dL_law_838 rfl (lv_at hl 0 rfl) ?_
  refine lv_iconst (v := nI 1) hx hb dL_law_839 (by decide) ?_
  refine lv_iadd hx hb dL_law_840 ?_
  refine va_sld hx hb hX hbl hbA hS (sc_in (k := 1) (by omega) (by omega)) dL_law_841 ?_
  refine lv_topi (fun a5 ea5 => ?_)
  obtain rfl : a1 = a5 := ea1.trans ea5.symm
  refine lv_aload_n hx hb dL_law_842 rfl (lv_at hl 3 rfl) ?_
  refine lv_iload_n hx hb dL_law_843 rfl (lv_at hl 0 rfl) ?_
  refine lv_iconst (v := nI 2) hx hb dL_law_844 (by decide) ?_
  refine lv_iadd hx hb dL_law_845 ?_
  refine va_sld hx hb hX hbl hbA hS (sc_in (k := 2) (by omega) (by omega)) dL_law_846 ?_
  refine lv_topi (fun a6 ea6 => ?_)
  obtain rfl : a2 = a6 := ea2.trans ea6.symm
  refine lv_aload_n hx hb dL_law_847 rfl (lv_at hl 3 rfl) ?_
  refine lv_iload_n hx hb dL_law_848 rfl (lv_at hl 0 rfl) ?_
  refine lv_iconst (v := nI 3) hx hb dL_law_849 (by decide) ?_
  refine lv_iadd hx hb dL_law_850 ?_
  refine va_sld hx hb hX hbl hbA hS (sc_in (k := 3) (by omega) (by omega)) dL_law_851 ?_
  refine lv_topi (fun a7 ea7 => ?_)
  obtain rfl : a3 = a7 := ea3.trans ea7.symm
  obtain ⟨r8, hf8, hq8⟩ := (sX12_onShelf σm a1 a2 a3 hM)
  have hP := tb_swP hP
  have hD := tb_swD hD
  have hPc := tb_lP hP
  have hDc := tb_lD hD
  have hFc := fr_A hDc hS hA
  refine va_calli (va_runV (As := [.int a1, .int a2, .int a3]) (rest := []) ⟨hx, hb, hml, hown, hts⟩ (tX12_onShelf l dC dI cy adm σm a1 a2 a3 H.size r8 hf8) (cwV 3 hts gL_law_X12_onShelf rfl rfl rfl (by decide +kernel) ⟨Nat.le_of_ble_eq_true rfl, Nat.le_of_ble_eq_true rfl⟩) (wp_V hK hN hPc hDc (va_recv hK hPc (ci := 12) (q0 := 0) rfl (wG_of (by omega) rfl))) rfl rfl hl.1 rfl (lv_room (Nat.le_of_ble_eq_true rfl)) dL_law_852 ⟨by show cells + 0 ≤ 600000; omega, by show slots + 0 ≤ 7302250; omega⟩) hS (fun q _ h => hFc q h) hFc (fun r9 u9 t9 H1 locs ht hvm hw8 hB hz1 hk1 hS => ?_)
  obtain rfl : r8 = r9 := hw8.symm
  obtain ⟨hP1, hD1⟩ := hB
  rw [ht] at hP1
  obtain ⟨hP, hD⟩ := tb_fj hP hD hk1 hFc hP1 hD1
  generalize H1 = H at hP hS ⊢
  have hP := tb_swP hP
  have hD := tb_swD hD
  refine lv_pop hx hb dL_law_855 rfl ?_
  refine lv_goto (tgt := 1635) hx hb dL_law_856 (by decide) ?_
  exact kk τ ad adm σ σm H locs ls _ _ hP hD hS hl hC hM (RelA.fr (a := 0) (b := 0) hR (Fr.rf _) (Fr.rf _) rfl rfl) (by omega) (by omega)

set_option maxHeartbeats 4000000 in
set_option maxRecDepth 100000 in
theorem lawc_19 {p : Program} {l : Launch} {e : Env} {s : State} {m : MethodId} {below : List Frame} {meth : Method} {c : Code} {A : Nat → Prop} {b L : Nat} {xs : Nat → Int32} {dC : Nat → ClassId} {dI : Nat → Nat → Nat} {cy : Nat → ClassId} {t : Nat} (C0 : lw_At p s m meth c b L xs) (hL : L ≤ 3072) (hAe : A = fun q : Nat => s.heap.size ≤ q) (hK : va_K (dC, dI) vwCl (tyl cy) s) (hN : NW s) (hZ : va_Z "SeatsRound" "KIND_ABOVE" "[I" (.ref t) A s s.heap) (hT : va_T .int t 7 (fun j => .int (kaI j)) A s s.heap) {i : Nat} (hi : i + 6 ≤ L) {τ : Nat} {ad adm : Nat → Nat} {σ σm : S2} {H : Heap} {locs : List Loc} {ls : Array Slot} {cells slots : Nat} (hP : va_P (dC, dI) vwCl (wG (cC cy ad τ) ad (182 + 6 * (τ + 1)) σ ++ wG (cM cy adm) adm 40 σm) H) (hD : va_D A (wG (cC cy ad τ) ad (182 + 6 * (τ + 1)) σ ++ wG (cM cy adm) adm 40 σm)) (hS : va_S A s.heap H locs) (hl : lv_has ls 4 [(3, .int (nI i)), (2, .ref (adm 0)), (1, .ref (ad 0)), (0, .ref b)]) (hC : IvC 0 τ σ) (hM : IvM 0 σm) (hR : RelL σ σm) (hc : cells ≤ 228 + i) (hs : slots ≤ 23896 + 353 * i) (kk : ∀ (τ : Nat) (ad adm : Nat → Nat) (σ σm : S2) (H : Heap) (locs : List Loc) (ls : Array Slot) (cells slots : Nat), va_P (dC, dI) vwCl (wG (cC cy ad τ) ad (182 + 6 * (τ + 1)) σ ++ wG (cM cy adm) adm 40 σm) H → va_D A (wG (cC cy ad τ) ad (182 + 6 * (τ + 1)) σ ++ wG (cM cy adm) adm 40 σm) → va_S A s.heap H locs → lv_has ls 4 [(3, .int (nI i)), (2, .ref (adm 0)), (1, .ref (ad 0)), (0, .ref b)] → IvC 0 τ σ → IvM 0 σm → RelL σ σm → cells ≤ 228 + (i + 6) → slots ≤ 23896 + 353 * (i + 6) → W p l e room_1 s m #[Value.ref b] below meth c H locs cells slots (lw_Z below #[Value.ref b] s) (F0 m 1635 ls [])) : W p l e room_1 s m #[Value.ref b] below meth c H locs cells slots (lw_Z below #[Value.ref b] s) (F0 m 859 ls []) := by
  obtain ⟨hx, hb, hr, hml, hown, hts, hX, hbl, hlocks, hgv⟩ := id C0
  have hown : s.vm.findClass RL = some m.cls := hown
  have hts := fun w h => hts w (wsL_law_in w h)
  have hA : ∀ q : Nat, s.heap.size ≤ q → A q := by rw [hAe]; exact fun _ h => h
  have hbA : ¬ A b := by rw [hAe]; exact Nat.not_le.mpr hbl
  have h10 : τ ≤ 10 := by have h9 : 0 ≤ (σ.1 0 6).toInt ∧ (σ.1 0 6).toInt ≤ 10 := hC.1 0 6; have := hC.2.2; omega
  have hC0 := hC
  have hM0 := hM
  refine lv_aload_n hx hb dL_law_859 rfl (lv_at hl 2 rfl) ?_
  refine lv_aload_n hx hb dL_law_860 rfl (lv_at hl 3 rfl) ?_
  refine lv_iload_n hx hb dL_law_861 rfl (lv_at hl 0 rfl) ?_
  refine lv_iconst (v := nI 1) hx hb dL_law_862 (by decide) ?_
  refine lv_iadd hx hb dL_law_863 ?_
  refine va_sld hx hb hX hbl hbA hS (sc_in (k := 1) (by omega) (by omega)) dL_law_864 ?_
  refine lv_topi (fun a1 ea1 => ?_)
  refine lv_aload_n hx hb dL_law_865 rfl (lv_at hl 3 rfl) ?_
  refine lv_iload_n hx hb dL_law_866 rfl (lv_at hl 0 rfl) ?_
  refine lv_iconst (v := nI 2) hx hb dL_law_867 (by decide) ?_
  refine lv_iadd hx hb dL_law_868 ?_
  refine va_sld hx hb hX hbl hbA hS (sc_in (k := 2) (by omega) (by omega)) dL_law_869 ?_
  refine lv_topi (fun a2 ea2 => ?_)
  obtain ⟨⟨r3, σ3⟩, hf3, hq3⟩ := (sX11_fall τ σ a1 a2 hC)
  have hPc := tb_lP hP
  have hDc := tb_lD hD
  have hFc := fr_A hDc hS hA
  refine va_calli (va_runV (As := [.int a1, .int a2]) (rest := []) ⟨hx, hb, hml, hown, hts⟩ (tX11_fall l dC dI cy ad τ (τ + 1) (by omega) σ a1 a2 H.size r3 σ3 hf3) (cwV 2 hts gL_law_X11_fall rfl rfl rfl (by decide +kernel) ⟨Nat.le_of_ble_eq_true rfl, Nat.le_of_ble_eq_true rfl⟩) (wp_V hK hN hPc hDc (va_recv hK hPc (ci := 11) (q0 := 0) rfl (wG_of (by omega) (cC_0 _ _ _ _ _)))) rfl rfl hl.1 rfl (lv_room (Nat.le_of_ble_eq_true rfl)) dL_law_870 ⟨by show cells + 0 ≤ 600000; omega, by show slots + 0 ≤ 7302250; omega⟩) hS (fun q _ h => hFc q h) hFc (fun r9 u9 t9 H1 locs ht hvm hw3 hB hz1 hk1 hS => ?_)
  obtain rfl : r3 = r9 := hw3.symm
  obtain ⟨hP1, hD1⟩ := hB
  rw [ht] at hP1
  obtain ⟨hP, hD⟩ := tb_fj hP hD hk1 hFc hP1 hD1
  generalize H1 = H at hP hS ⊢
  have hC : IvC 0 τ σ3 := by first | exact hq3 | exact hq3.1
  refine lv_pop hx hb dL_law_873 rfl ?_
  refine lv_aload_n hx hb dL_law_874 rfl (lv_at hl 1 rfl) ?_
  refine lv_aload_n hx hb dL_law_875 rfl (lv_at hl 3 rfl) ?_
  refine lv_iload_n hx hb dL_law_876 rfl (lv_at hl 0 rfl) ?_
  refine lv_iconst (v := nI 1) hx hb dL_law_877 (by decide) ?_
  refine lv_iadd hx hb dL_law_878 ?_
  refine va_sld hx hb hX hbl hbA hS (sc_in (k := 1) (by omega) (by omega)) dL_law_879 ?_
  refine lv_topi (fun a4 ea4 => ?_)
  obtain rfl : a1 = a4 := ea1.trans ea4.symm
  refine lv_aload_n hx hb dL_law_880 rfl (lv_at hl 3 rfl) ?_
  refine lv_iload_n hx hb dL_law_881 rfl (lv_at hl 0 rfl) ?_
  refine lv_iconst (v := nI 2) hx hb dL_law_882 (by decide) ?_
  refine lv_iadd hx hb dL_law_883 ?_
  refine va_sld hx hb hX hbl hbA hS (sc_in (k := 2) (by omega) (by omega)) dL_law_884 ?_
  refine lv_topi (fun a5 ea5 => ?_)
  obtain rfl : a2 = a5 := ea2.trans ea5.symm
  obtain ⟨⟨r6, ρ6⟩, hf6, hq6⟩ := (sX12_fall σm a1 a2 hM)
  have hP := tb_swP hP
  have hD := tb_swD hD
  have hPc := tb_lP hP
  have hDc := tb_lD hD
  have hFc := fr_A hDc hS hA
  refine va_calli (va_runV (As := [.int a1, .int a2]) (rest := []) ⟨hx, hb, hml, hown, hts⟩ (tX12_fall l dC dI cy adm σm a1 a2 H.size r6 ρ6 hf6) (cwV 2 hts gL_law_X12_fall rfl rfl rfl (by decide +kernel) ⟨Nat.le_of_ble_eq_true rfl, Nat.le_of_ble_eq_true rfl⟩) (wp_V hK hN hPc hDc (va_recv hK hPc (ci := 12) (q0 := 0) rfl (wG_of (by omega) rfl))) rfl rfl hl.1 rfl (lv_room (Nat.le_of_ble_eq_true rfl)) dL_law_885 ⟨by show cells + 0 ≤ 600000; omega, by show slots + 0 ≤ 7302250; omega⟩) hS (fun q _ h => hFc q h) hFc (fun r9 u9 t9 H1 locs ht hvm hw6 hB hz1 hk1 hS => ?_)
  obtain rfl : r6 = r9 := hw6.symm
  obtain ⟨hP1, hD1⟩ := hB
  rw [ht] at hP1
  obtain ⟨hP, hD⟩ := tb_fj hP hD hk1 hFc hP1 hD1
  generalize H1 = H at hP hS ⊢
  have hP := tb_swP hP
  have hD := tb_swD hD
  have hM : IvM 0 ρ6 := by first | exact hq6 | exact hq6.1
  refine lv_pop hx hb dL_law_888 rfl ?_
  refine lv_goto (tgt := 1635) hx hb dL_law_889 (by decide) ?_
  exact kk τ ad adm σ3 ρ6 H locs ls _ _ hP hD hS hl hC hM (st_fall hR hM0 hf3 hf6).2 (by omega) (by omega)

set_option maxHeartbeats 4000000 in
set_option maxRecDepth 100000 in
theorem lawc_20 {p : Program} {l : Launch} {e : Env} {s : State} {m : MethodId} {below : List Frame} {meth : Method} {c : Code} {A : Nat → Prop} {b L : Nat} {xs : Nat → Int32} {dC : Nat → ClassId} {dI : Nat → Nat → Nat} {cy : Nat → ClassId} {t : Nat} (C0 : lw_At p s m meth c b L xs) (hL : L ≤ 3072) (hAe : A = fun q : Nat => s.heap.size ≤ q) (hK : va_K (dC, dI) vwCl (tyl cy) s) (hN : NW s) (hZ : va_Z "SeatsRound" "KIND_ABOVE" "[I" (.ref t) A s s.heap) (hT : va_T .int t 7 (fun j => .int (kaI j)) A s s.heap) {i : Nat} (hi : i + 6 ≤ L) {τ : Nat} {ad adm : Nat → Nat} {σ σm : S2} {H : Heap} {locs : List Loc} {ls : Array Slot} {cells slots : Nat} (hP : va_P (dC, dI) vwCl (wG (cC cy ad τ) ad (182 + 6 * (τ + 1)) σ ++ wG (cM cy adm) adm 40 σm) H) (hD : va_D A (wG (cC cy ad τ) ad (182 + 6 * (τ + 1)) σ ++ wG (cM cy adm) adm 40 σm)) (hS : va_S A s.heap H locs) (hl : lv_has ls 4 [(3, .int (nI i)), (2, .ref (adm 0)), (1, .ref (ad 0)), (0, .ref b)]) (hC : IvC 0 τ σ) (hM : IvM 0 σm) (hR : RelL σ σm) (hc : cells ≤ 228 + i) (hs : slots ≤ 23896 + 353 * i) (kk : ∀ (τ : Nat) (ad adm : Nat → Nat) (σ σm : S2) (H : Heap) (locs : List Loc) (ls : Array Slot) (cells slots : Nat), va_P (dC, dI) vwCl (wG (cC cy ad τ) ad (182 + 6 * (τ + 1)) σ ++ wG (cM cy adm) adm 40 σm) H → va_D A (wG (cC cy ad τ) ad (182 + 6 * (τ + 1)) σ ++ wG (cM cy adm) adm 40 σm) → va_S A s.heap H locs → lv_has ls 4 [(3, .int (nI i)), (2, .ref (adm 0)), (1, .ref (ad 0)), (0, .ref b)] → IvC 0 τ σ → IvM 0 σm → RelL σ σm → cells ≤ 228 + (i + 6) → slots ≤ 23896 + 353 * (i + 6) → W p l e room_1 s m #[Value.ref b] below meth c H locs cells slots (lw_Z below #[Value.ref b] s) (F0 m 1635 ls [])) : W p l e room_1 s m #[Value.ref b] below meth c H locs cells slots (lw_Z below #[Value.ref b] s) (F0 m 892 ls []) := by
  obtain ⟨hx, hb, hr, hml, hown, hts, hX, hbl, hlocks, hgv⟩ := id C0
  have hown : s.vm.findClass RL = some m.cls := hown
  have hts := fun w h => hts w (wsL_law_in w h)
  have hA : ∀ q : Nat, s.heap.size ≤ q → A q := by rw [hAe]; exact fun _ h => h
  have hbA : ¬ A b := by rw [hAe]; exact Nat.not_le.mpr hbl
  have h10 : τ ≤ 10 := by have h9 : 0 ≤ (σ.1 0 6).toInt ∧ (σ.1 0 6).toInt ≤ 10 := hC.1 0 6; have := hC.2.2; omega
  have hC0 := hC
  have hM0 := hM
  refine lv_aload_n hx hb dL_law_892 rfl (lv_at hl 2 rfl) ?_
  refine lv_aload_n hx hb dL_law_893 rfl (lv_at hl 3 rfl) ?_
  refine lv_iload_n hx hb dL_law_894 rfl (lv_at hl 0 rfl) ?_
  refine lv_iconst (v := nI 1) hx hb dL_law_895 (by decide) ?_
  refine lv_iadd hx hb dL_law_896 ?_
  refine va_sld hx hb hX hbl hbA hS (sc_in (k := 1) (by omega) (by omega)) dL_law_897 ?_
  refine lv_topi (fun a1 ea1 => ?_)
  refine lv_aload_n hx hb dL_law_898 rfl (lv_at hl 3 rfl) ?_
  refine lv_iload_n hx hb dL_law_899 rfl (lv_at hl 0 rfl) ?_
  refine lv_iconst (v := nI 2) hx hb dL_law_900 (by decide) ?_
  refine lv_iadd hx hb dL_law_901 ?_
  refine va_sld hx hb hX hbl hbA hS (sc_in (k := 2) (by omega) (by omega)) dL_law_902 ?_
  refine lv_topi (fun a2 ea2 => ?_)
  refine lv_aload_n hx hb dL_law_903 rfl (lv_at hl 3 rfl) ?_
  refine lv_iload_n hx hb dL_law_904 rfl (lv_at hl 0 rfl) ?_
  refine lv_iconst (v := nI 3) hx hb dL_law_905 (by decide) ?_
  refine lv_iadd hx hb dL_law_906 ?_
  refine va_sld hx hb hX hbl hbA hS (sc_in (k := 3) (by omega) (by omega)) dL_law_907 ?_
  refine lv_topi (fun a3 ea3 => ?_)
  obtain ⟨⟨r4, σ4⟩, hf4, hq4⟩ := (sX11_half τ σ a1 a2 a3 hC)
  have hPc := tb_lP hP
  have hDc := tb_lD hD
  have hFc := fr_A hDc hS hA
  refine va_calli (va_runV (As := [.int a1, .int a2, .int a3]) (rest := []) ⟨hx, hb, hml, hown, hts⟩ (tX11_half l dC dI cy ad τ (τ + 1) (by omega) σ a1 a2 a3 H.size r4 σ4 hf4) (cwV 3 hts gL_law_X11_half rfl rfl rfl (by decide +kernel) ⟨Nat.le_of_ble_eq_true rfl, Nat.le_of_ble_eq_true rfl⟩) (wp_V hK hN hPc hDc (va_recv hK hPc (ci := 11) (q0 := 0) rfl (wG_of (by omega) (cC_0 _ _ _ _ _)))) rfl rfl hl.1 rfl (lv_room (Nat.le_of_ble_eq_true rfl)) dL_law_908 ⟨by show cells + 0 ≤ 600000; omega, by show slots + 0 ≤ 7302250; omega⟩) hS (fun q _ h => hFc q h) hFc (fun r9 u9 t9 H1 locs ht hvm hw4 hB hz1 hk1 hS => ?_)
  obtain rfl : r4 = r9 := hw4.symm
  obtain ⟨hP1, hD1⟩ := hB
  rw [ht] at hP1
  obtain ⟨hP, hD⟩ := tb_fj hP hD hk1 hFc hP1 hD1
  generalize H1 = H at hP hS ⊢
  have hC : IvC 0 τ σ4 := by first | exact hq4 | exact hq4.1
  refine lv_pop hx hb dL_law_911 rfl ?_
  refine lv_aload_n hx hb dL_law_912 rfl (lv_at hl 1 rfl) ?_
  refine lv_aload_n hx hb dL_law_913 rfl (lv_at hl 3 rfl) ?_
  refine lv_iload_n hx hb dL_law_914 rfl (lv_at hl 0 rfl) ?_
  refine lv_iconst (v := nI 1) hx hb dL_law_915 (by decide) ?_
  refine lv_iadd hx hb dL_law_916 ?_
  refine va_sld hx hb hX hbl hbA hS (sc_in (k := 1) (by omega) (by omega)) dL_law_917 ?_
  refine lv_topi (fun a5 ea5 => ?_)
  obtain rfl : a1 = a5 := ea1.trans ea5.symm
  refine lv_aload_n hx hb dL_law_918 rfl (lv_at hl 3 rfl) ?_
  refine lv_iload_n hx hb dL_law_919 rfl (lv_at hl 0 rfl) ?_
  refine lv_iconst (v := nI 2) hx hb dL_law_920 (by decide) ?_
  refine lv_iadd hx hb dL_law_921 ?_
  refine va_sld hx hb hX hbl hbA hS (sc_in (k := 2) (by omega) (by omega)) dL_law_922 ?_
  refine lv_topi (fun a6 ea6 => ?_)
  obtain rfl : a2 = a6 := ea2.trans ea6.symm
  refine lv_aload_n hx hb dL_law_923 rfl (lv_at hl 3 rfl) ?_
  refine lv_iload_n hx hb dL_law_924 rfl (lv_at hl 0 rfl) ?_
  refine lv_iconst (v := nI 3) hx hb dL_law_925 (by decide) ?_
  refine lv_iadd hx hb dL_law_926 ?_
  refine va_sld hx hb hX hbl hbA hS (sc_in (k := 3) (by omega) (by omega)) dL_law_927 ?_
  refine lv_topi (fun a7 ea7 => ?_)
  obtain rfl : a3 = a7 := ea3.trans ea7.symm
  obtain ⟨⟨r8, ρ8⟩, hf8, hq8⟩ := (sX12_half σm a1 a2 a3 hM)
  have hP := tb_swP hP
  have hD := tb_swD hD
  have hPc := tb_lP hP
  have hDc := tb_lD hD
  have hFc := fr_A hDc hS hA
  refine va_calli (va_runV (As := [.int a1, .int a2, .int a3]) (rest := []) ⟨hx, hb, hml, hown, hts⟩ (tX12_half l dC dI cy adm σm a1 a2 a3 H.size r8 ρ8 hf8) (cwV 3 hts gL_law_X12_half rfl rfl rfl (by decide +kernel) ⟨Nat.le_of_ble_eq_true rfl, Nat.le_of_ble_eq_true rfl⟩) (wp_V hK hN hPc hDc (va_recv hK hPc (ci := 12) (q0 := 0) rfl (wG_of (by omega) rfl))) rfl rfl hl.1 rfl (lv_room (Nat.le_of_ble_eq_true rfl)) dL_law_928 ⟨by show cells + 0 ≤ 600000; omega, by show slots + 0 ≤ 7302250; omega⟩) hS (fun q _ h => hFc q h) hFc (fun r9 u9 t9 H1 locs ht hvm hw8 hB hz1 hk1 hS => ?_)
  obtain rfl : r8 = r9 := hw8.symm
  obtain ⟨hP1, hD1⟩ := hB
  rw [ht] at hP1
  obtain ⟨hP, hD⟩ := tb_fj hP hD hk1 hFc hP1 hD1
  generalize H1 = H at hP hS ⊢
  have hP := tb_swP hP
  have hD := tb_swD hD
  have hM : IvM 0 ρ8 := by first | exact hq8 | exact hq8.1
  refine lv_pop hx hb dL_law_931 rfl ?_
  refine lv_goto (tgt := 1635) hx hb dL_law_932 (by decide) ?_
  exact kk τ ad adm σ4 ρ8 H locs ls _ _ hP hD hS hl hC hM (RelA.fr (a := 10240) (b := 10240) hR (wfX11_half (m := 10240) rfl _ _ _ _ _ (Fr.rf _) _ hf4) (wfX12_half (m := 10240) rfl _ _ _ _ (Fr.rf _) _ hf8) rfl rfl) (by omega) (by omega)

set_option maxHeartbeats 4000000 in
set_option maxRecDepth 100000 in
theorem lawc_21 {p : Program} {l : Launch} {e : Env} {s : State} {m : MethodId} {below : List Frame} {meth : Method} {c : Code} {A : Nat → Prop} {b L : Nat} {xs : Nat → Int32} {dC : Nat → ClassId} {dI : Nat → Nat → Nat} {cy : Nat → ClassId} {t : Nat} (C0 : lw_At p s m meth c b L xs) (hL : L ≤ 3072) (hAe : A = fun q : Nat => s.heap.size ≤ q) (hK : va_K (dC, dI) vwCl (tyl cy) s) (hN : NW s) (hZ : va_Z "SeatsRound" "KIND_ABOVE" "[I" (.ref t) A s s.heap) (hT : va_T .int t 7 (fun j => .int (kaI j)) A s s.heap) {i : Nat} (hi : i + 6 ≤ L) {τ : Nat} {ad adm : Nat → Nat} {σ σm : S2} {H : Heap} {locs : List Loc} {ls : Array Slot} {cells slots : Nat} (hP : va_P (dC, dI) vwCl (wG (cC cy ad τ) ad (182 + 6 * (τ + 1)) σ ++ wG (cM cy adm) adm 40 σm) H) (hD : va_D A (wG (cC cy ad τ) ad (182 + 6 * (τ + 1)) σ ++ wG (cM cy adm) adm 40 σm)) (hS : va_S A s.heap H locs) (hl : lv_has ls 4 [(3, .int (nI i)), (2, .ref (adm 0)), (1, .ref (ad 0)), (0, .ref b)]) (hC : IvC 0 τ σ) (hM : IvM 0 σm) (hR : RelL σ σm) (hc : cells ≤ 228 + i) (hs : slots ≤ 23896 + 353 * i) (kk : ∀ (τ : Nat) (ad adm : Nat → Nat) (σ σm : S2) (H : Heap) (locs : List Loc) (ls : Array Slot) (cells slots : Nat), va_P (dC, dI) vwCl (wG (cC cy ad τ) ad (182 + 6 * (τ + 1)) σ ++ wG (cM cy adm) adm 40 σm) H → va_D A (wG (cC cy ad τ) ad (182 + 6 * (τ + 1)) σ ++ wG (cM cy adm) adm 40 σm) → va_S A s.heap H locs → lv_has ls 4 [(3, .int (nI i)), (2, .ref (adm 0)), (1, .ref (ad 0)), (0, .ref b)] → IvC 0 τ σ → IvM 0 σm → RelL σ σm → cells ≤ 228 + (i + 6) → slots ≤ 23896 + 353 * (i + 6) → W p l e room_1 s m #[Value.ref b] below meth c H locs cells slots (lw_Z below #[Value.ref b] s) (F0 m 1635 ls [])) : W p l e room_1 s m #[Value.ref b] below meth c H locs cells slots (lw_Z below #[Value.ref b] s) (F0 m 935 ls []) := by
  obtain ⟨hx, hb, hr, hml, hown, hts, hX, hbl, hlocks, hgv⟩ := id C0
  have hown : s.vm.findClass RL = some m.cls := hown
  have hts := fun w h => hts w (wsL_law_in w h)
  have hA : ∀ q : Nat, s.heap.size ≤ q → A q := by rw [hAe]; exact fun _ h => h
  have hbA : ¬ A b := by rw [hAe]; exact Nat.not_le.mpr hbl
  have h10 : τ ≤ 10 := by have h9 : 0 ≤ (σ.1 0 6).toInt ∧ (σ.1 0 6).toInt ≤ 10 := hC.1 0 6; have := hC.2.2; omega
  have hC0 := hC
  have hM0 := hM
  refine lv_aload_n hx hb dL_law_935 rfl (lv_at hl 2 rfl) ?_
  refine lv_aload_n hx hb dL_law_936 rfl (lv_at hl 3 rfl) ?_
  refine lv_iload_n hx hb dL_law_937 rfl (lv_at hl 0 rfl) ?_
  refine lv_iconst (v := nI 1) hx hb dL_law_938 (by decide) ?_
  refine lv_iadd hx hb dL_law_939 ?_
  refine va_sld hx hb hX hbl hbA hS (sc_in (k := 1) (by omega) (by omega)) dL_law_940 ?_
  refine lv_topi (fun a1 ea1 => ?_)
  obtain ⟨⟨r2, σ2⟩, hf2, hq2⟩ := (sX11_mend τ σ a1 hC)
  have hPc := tb_lP hP
  have hDc := tb_lD hD
  have hFc := fr_A hDc hS hA
  refine va_calli (va_runV (As := [.int a1]) (rest := []) ⟨hx, hb, hml, hown, hts⟩ (tX11_mend l dC dI cy ad τ (τ + 1) (by omega) σ a1 H.size r2 σ2 hf2) (cwV 1 hts gL_law_X11_mend rfl rfl rfl (by decide +kernel) ⟨Nat.le_of_ble_eq_true rfl, Nat.le_of_ble_eq_true rfl⟩) (wp_V hK hN hPc hDc (va_recv hK hPc (ci := 11) (q0 := 0) rfl (wG_of (by omega) (cC_0 _ _ _ _ _)))) rfl rfl hl.1 rfl (lv_room (Nat.le_of_ble_eq_true rfl)) dL_law_941 ⟨by show cells + 0 ≤ 600000; omega, by show slots + 0 ≤ 7302250; omega⟩) hS (fun q _ h => hFc q h) hFc (fun r9 u9 t9 H1 locs ht hvm hw2 hB hz1 hk1 hS => ?_)
  obtain rfl : r2 = r9 := hw2.symm
  obtain ⟨hP1, hD1⟩ := hB
  rw [ht] at hP1
  obtain ⟨hP, hD⟩ := tb_fj hP hD hk1 hFc hP1 hD1
  generalize H1 = H at hP hS ⊢
  have hC : IvC 0 τ σ2 := by first | exact hq2 | exact hq2.1
  refine lv_pop hx hb dL_law_944 rfl ?_
  refine lv_aload_n hx hb dL_law_945 rfl (lv_at hl 1 rfl) ?_
  refine lv_aload_n hx hb dL_law_946 rfl (lv_at hl 3 rfl) ?_
  refine lv_iload_n hx hb dL_law_947 rfl (lv_at hl 0 rfl) ?_
  refine lv_iconst (v := nI 1) hx hb dL_law_948 (by decide) ?_
  refine lv_iadd hx hb dL_law_949 ?_
  refine va_sld hx hb hX hbl hbA hS (sc_in (k := 1) (by omega) (by omega)) dL_law_950 ?_
  refine lv_topi (fun a3 ea3 => ?_)
  obtain rfl : a1 = a3 := ea1.trans ea3.symm
  obtain ⟨⟨r4, ρ4⟩, hf4, hq4⟩ := (sX12_mend σm a1 hM)
  have hP := tb_swP hP
  have hD := tb_swD hD
  have hPc := tb_lP hP
  have hDc := tb_lD hD
  have hFc := fr_A hDc hS hA
  refine va_calli (va_runV (As := [.int a1]) (rest := []) ⟨hx, hb, hml, hown, hts⟩ (tX12_mend l dC dI cy adm σm a1 H.size r4 ρ4 hf4) (cwV 1 hts gL_law_X12_mend rfl rfl rfl (by decide +kernel) ⟨Nat.le_of_ble_eq_true rfl, Nat.le_of_ble_eq_true rfl⟩) (wp_V hK hN hPc hDc (va_recv hK hPc (ci := 12) (q0 := 0) rfl (wG_of (by omega) rfl))) rfl rfl hl.1 rfl (lv_room (Nat.le_of_ble_eq_true rfl)) dL_law_951 ⟨by show cells + 0 ≤ 600000; omega, by show slots + 0 ≤ 7302250; omega⟩) hS (fun q _ h => hFc q h) hFc (fun r9 u9 t9 H1 locs ht hvm hw4 hB hz1 hk1 hS => ?_)
  obtain rfl : r4 = r9 := hw4.symm
  obtain ⟨hP1, hD1⟩ := hB
  rw [ht] at hP1
  obtain ⟨hP, hD⟩ := tb_fj hP hD hk1 hFc hP1 hD1
  generalize H1 = H at hP hS ⊢
  have hP := tb_swP hP
  have hD := tb_swD hD
  have hM : IvM 0 ρ4 := by first | exact hq4 | exact hq4.1
  refine lv_pop hx hb dL_law_954 rfl ?_
  refine lv_goto (tgt := 1635) hx hb dL_law_955 (by decide) ?_
  exact kk τ ad adm σ2 ρ4 H locs ls _ _ hP hD hS hl hC hM (RelA.fr (a := 2049) (b := 2049) hR (wfX11_mend (m := 2049) rfl _ _ _ (Fr.rf _) _ hf2) (wfX12_mend (m := 2049) rfl _ _ (Fr.rf _) _ hf4) rfl rfl) (by omega) (by omega)

set_option maxHeartbeats 4000000 in
set_option maxRecDepth 100000 in
theorem lawc_22 {p : Program} {l : Launch} {e : Env} {s : State} {m : MethodId} {below : List Frame} {meth : Method} {c : Code} {A : Nat → Prop} {b L : Nat} {xs : Nat → Int32} {dC : Nat → ClassId} {dI : Nat → Nat → Nat} {cy : Nat → ClassId} {t : Nat} (C0 : lw_At p s m meth c b L xs) (hL : L ≤ 3072) (hAe : A = fun q : Nat => s.heap.size ≤ q) (hK : va_K (dC, dI) vwCl (tyl cy) s) (hN : NW s) (hZ : va_Z "SeatsRound" "KIND_ABOVE" "[I" (.ref t) A s s.heap) (hT : va_T .int t 7 (fun j => .int (kaI j)) A s s.heap) {i : Nat} (hi : i + 6 ≤ L) {τ : Nat} {ad adm : Nat → Nat} {σ σm : S2} {H : Heap} {locs : List Loc} {ls : Array Slot} {cells slots : Nat} (hP : va_P (dC, dI) vwCl (wG (cC cy ad τ) ad (182 + 6 * (τ + 1)) σ ++ wG (cM cy adm) adm 40 σm) H) (hD : va_D A (wG (cC cy ad τ) ad (182 + 6 * (τ + 1)) σ ++ wG (cM cy adm) adm 40 σm)) (hS : va_S A s.heap H locs) (hl : lv_has ls 4 [(3, .int (nI i)), (2, .ref (adm 0)), (1, .ref (ad 0)), (0, .ref b)]) (hC : IvC 0 τ σ) (hM : IvM 0 σm) (hR : RelL σ σm) (hc : cells ≤ 228 + i) (hs : slots ≤ 23896 + 353 * i) (kk : ∀ (τ : Nat) (ad adm : Nat → Nat) (σ σm : S2) (H : Heap) (locs : List Loc) (ls : Array Slot) (cells slots : Nat), va_P (dC, dI) vwCl (wG (cC cy ad τ) ad (182 + 6 * (τ + 1)) σ ++ wG (cM cy adm) adm 40 σm) H → va_D A (wG (cC cy ad τ) ad (182 + 6 * (τ + 1)) σ ++ wG (cM cy adm) adm 40 σm) → va_S A s.heap H locs → lv_has ls 4 [(3, .int (nI i)), (2, .ref (adm 0)), (1, .ref (ad 0)), (0, .ref b)] → IvC 0 τ σ → IvM 0 σm → RelL σ σm → cells ≤ 228 + (i + 6) → slots ≤ 23896 + 353 * (i + 6) → W p l e room_1 s m #[Value.ref b] below meth c H locs cells slots (lw_Z below #[Value.ref b] s) (F0 m 1635 ls [])) : W p l e room_1 s m #[Value.ref b] below meth c H locs cells slots (lw_Z below #[Value.ref b] s) (F0 m 958 ls []) := by
  obtain ⟨hx, hb, hr, hml, hown, hts, hX, hbl, hlocks, hgv⟩ := id C0
  have hown : s.vm.findClass RL = some m.cls := hown
  have hts := fun w h => hts w (wsL_law_in w h)
  have hA : ∀ q : Nat, s.heap.size ≤ q → A q := by rw [hAe]; exact fun _ h => h
  have hbA : ¬ A b := by rw [hAe]; exact Nat.not_le.mpr hbl
  have h10 : τ ≤ 10 := by have h9 : 0 ≤ (σ.1 0 6).toInt ∧ (σ.1 0 6).toInt ≤ 10 := hC.1 0 6; have := hC.2.2; omega
  have hC0 := hC
  have hM0 := hM
  refine lv_aload_n hx hb dL_law_958 rfl (lv_at hl 2 rfl) ?_
  refine lv_aload_n hx hb dL_law_959 rfl (lv_at hl 3 rfl) ?_
  refine lv_iload_n hx hb dL_law_960 rfl (lv_at hl 0 rfl) ?_
  refine lv_iconst (v := nI 1) hx hb dL_law_961 (by decide) ?_
  refine lv_iadd hx hb dL_law_962 ?_
  refine va_sld hx hb hX hbl hbA hS (sc_in (k := 1) (by omega) (by omega)) dL_law_963 ?_
  refine lv_topi (fun a1 ea1 => ?_)
  refine lv_aload_n hx hb dL_law_964 rfl (lv_at hl 3 rfl) ?_
  refine lv_iload_n hx hb dL_law_965 rfl (lv_at hl 0 rfl) ?_
  refine lv_iconst (v := nI 2) hx hb dL_law_966 (by decide) ?_
  refine lv_iadd hx hb dL_law_967 ?_
  refine va_sld hx hb hX hbl hbA hS (sc_in (k := 2) (by omega) (by omega)) dL_law_968 ?_
  refine lv_topi (fun a2 ea2 => ?_)
  refine lv_aload_n hx hb dL_law_969 rfl (lv_at hl 3 rfl) ?_
  refine lv_iload_n hx hb dL_law_970 rfl (lv_at hl 0 rfl) ?_
  refine lv_iconst (v := nI 3) hx hb dL_law_971 (by decide) ?_
  refine lv_iadd hx hb dL_law_972 ?_
  refine va_sld hx hb hX hbl hbA hS (sc_in (k := 3) (by omega) (by omega)) dL_law_973 ?_
  refine lv_topi (fun a3 ea3 => ?_)
  obtain ⟨⟨r4, σ4⟩, hf4, hq4⟩ := (sX11_trees τ σ a1 a2 a3 hC)
  have hPc := tb_lP hP
  have hDc := tb_lD hD
  have hFc := fr_A hDc hS hA
  refine va_calli (va_runV (As := [.int a1, .int a2, .int a3]) (rest := []) ⟨hx, hb, hml, hown, hts⟩ (tX11_trees l dC dI cy ad τ (τ + 1) (by omega) σ a1 a2 a3 H.size r4 σ4 hf4) (cwV 3 hts gL_law_X11_trees rfl rfl rfl (by decide +kernel) ⟨Nat.le_of_ble_eq_true rfl, Nat.le_of_ble_eq_true rfl⟩) (wp_V hK hN hPc hDc (va_recv hK hPc (ci := 11) (q0 := 0) rfl (wG_of (by omega) (cC_0 _ _ _ _ _)))) rfl rfl hl.1 rfl (lv_room (Nat.le_of_ble_eq_true rfl)) dL_law_974 ⟨by show cells + 0 ≤ 600000; omega, by show slots + 0 ≤ 7302250; omega⟩) hS (fun q _ h => hFc q h) hFc (fun r9 u9 t9 H1 locs ht hvm hw4 hB hz1 hk1 hS => ?_)
  obtain rfl : r4 = r9 := hw4.symm
  obtain ⟨hP1, hD1⟩ := hB
  rw [ht] at hP1
  obtain ⟨hP, hD⟩ := tb_fj hP hD hk1 hFc hP1 hD1
  generalize H1 = H at hP hS ⊢
  have hC : IvC 0 τ σ4 := by first | exact hq4 | exact hq4.1
  refine lv_pop hx hb dL_law_977 rfl ?_
  refine lv_aload_n hx hb dL_law_978 rfl (lv_at hl 1 rfl) ?_
  refine lv_aload_n hx hb dL_law_979 rfl (lv_at hl 3 rfl) ?_
  refine lv_iload_n hx hb dL_law_980 rfl (lv_at hl 0 rfl) ?_
  refine lv_iconst (v := nI 1) hx hb dL_law_981 (by decide) ?_
  refine lv_iadd hx hb dL_law_982 ?_
  refine va_sld hx hb hX hbl hbA hS (sc_in (k := 1) (by omega) (by omega)) dL_law_983 ?_
  refine lv_topi (fun a5 ea5 => ?_)
  obtain rfl : a1 = a5 := ea1.trans ea5.symm
  refine lv_aload_n hx hb dL_law_984 rfl (lv_at hl 3 rfl) ?_
  refine lv_iload_n hx hb dL_law_985 rfl (lv_at hl 0 rfl) ?_
  refine lv_iconst (v := nI 2) hx hb dL_law_986 (by decide) ?_
  refine lv_iadd hx hb dL_law_987 ?_
  refine va_sld hx hb hX hbl hbA hS (sc_in (k := 2) (by omega) (by omega)) dL_law_988 ?_
  refine lv_topi (fun a6 ea6 => ?_)
  obtain rfl : a2 = a6 := ea2.trans ea6.symm
  refine lv_aload_n hx hb dL_law_989 rfl (lv_at hl 3 rfl) ?_
  refine lv_iload_n hx hb dL_law_990 rfl (lv_at hl 0 rfl) ?_
  refine lv_iconst (v := nI 3) hx hb dL_law_991 (by decide) ?_
  refine lv_iadd hx hb dL_law_992 ?_
  refine va_sld hx hb hX hbl hbA hS (sc_in (k := 3) (by omega) (by omega)) dL_law_993 ?_
  refine lv_topi (fun a7 ea7 => ?_)
  obtain rfl : a3 = a7 := ea3.trans ea7.symm
  obtain ⟨r8, hf8, hq8⟩ := (sX12_trees σm a1 a2 a3 hM)
  have hP := tb_swP hP
  have hD := tb_swD hD
  have hPc := tb_lP hP
  have hDc := tb_lD hD
  have hFc := fr_A hDc hS hA
  refine va_calli (va_runV (As := [.int a1, .int a2, .int a3]) (rest := []) ⟨hx, hb, hml, hown, hts⟩ (tX12_trees l dC dI cy adm σm a1 a2 a3 H.size r8 hf8) (cwV 3 hts gL_law_X12_trees rfl rfl rfl (by decide +kernel) ⟨Nat.le_of_ble_eq_true rfl, Nat.le_of_ble_eq_true rfl⟩) (wp_V hK hN hPc hDc (va_recv hK hPc (ci := 12) (q0 := 0) rfl (wG_of (by omega) rfl))) rfl rfl hl.1 rfl (lv_room (Nat.le_of_ble_eq_true rfl)) dL_law_994 ⟨by show cells + 0 ≤ 600000; omega, by show slots + 0 ≤ 7302250; omega⟩) hS (fun q _ h => hFc q h) hFc (fun r9 u9 t9 H1 locs ht hvm hw8 hB hz1 hk1 hS => ?_)
  obtain rfl : r8 = r9 := hw8.symm
  obtain ⟨hP1, hD1⟩ := hB
  rw [ht] at hP1
  obtain ⟨hP, hD⟩ := tb_fj hP hD hk1 hFc hP1 hD1
  generalize H1 = H at hP hS ⊢
  have hP := tb_swP hP
  have hD := tb_swD hD
  refine lv_pop hx hb dL_law_997 rfl ?_
  refine lv_goto (tgt := 1635) hx hb dL_law_998 (by decide) ?_
  exact kk τ ad adm σ4 σm H locs ls _ _ hP hD hS hl hC hM (RelA.fr (a := 1) (b := 0) hR (wfX11_trees (m := 1) rfl _ _ _ _ _ (Fr.rf _) _ hf4) (Fr.rf _) rfl rfl) (by omega) (by omega)

set_option maxHeartbeats 4000000 in
set_option maxRecDepth 100000 in
theorem lawc_23 {p : Program} {l : Launch} {e : Env} {s : State} {m : MethodId} {below : List Frame} {meth : Method} {c : Code} {A : Nat → Prop} {b L : Nat} {xs : Nat → Int32} {dC : Nat → ClassId} {dI : Nat → Nat → Nat} {cy : Nat → ClassId} {t : Nat} (C0 : lw_At p s m meth c b L xs) (hL : L ≤ 3072) (hAe : A = fun q : Nat => s.heap.size ≤ q) (hK : va_K (dC, dI) vwCl (tyl cy) s) (hN : NW s) (hZ : va_Z "SeatsRound" "KIND_ABOVE" "[I" (.ref t) A s s.heap) (hT : va_T .int t 7 (fun j => .int (kaI j)) A s s.heap) {i : Nat} (hi : i + 6 ≤ L) {τ : Nat} {ad adm : Nat → Nat} {σ σm : S2} {H : Heap} {locs : List Loc} {ls : Array Slot} {cells slots : Nat} (hP : va_P (dC, dI) vwCl (wG (cC cy ad τ) ad (182 + 6 * (τ + 1)) σ ++ wG (cM cy adm) adm 40 σm) H) (hD : va_D A (wG (cC cy ad τ) ad (182 + 6 * (τ + 1)) σ ++ wG (cM cy adm) adm 40 σm)) (hS : va_S A s.heap H locs) (hl : lv_has ls 4 [(3, .int (nI i)), (2, .ref (adm 0)), (1, .ref (ad 0)), (0, .ref b)]) (hC : IvC 0 τ σ) (hM : IvM 0 σm) (hR : RelL σ σm) (hc : cells ≤ 228 + i) (hs : slots ≤ 23896 + 353 * i) (kk : ∀ (τ : Nat) (ad adm : Nat → Nat) (σ σm : S2) (H : Heap) (locs : List Loc) (ls : Array Slot) (cells slots : Nat), va_P (dC, dI) vwCl (wG (cC cy ad τ) ad (182 + 6 * (τ + 1)) σ ++ wG (cM cy adm) adm 40 σm) H → va_D A (wG (cC cy ad τ) ad (182 + 6 * (τ + 1)) σ ++ wG (cM cy adm) adm 40 σm) → va_S A s.heap H locs → lv_has ls 4 [(3, .int (nI i)), (2, .ref (adm 0)), (1, .ref (ad 0)), (0, .ref b)] → IvC 0 τ σ → IvM 0 σm → RelL σ σm → cells ≤ 228 + (i + 6) → slots ≤ 23896 + 353 * (i + 6) → W p l e room_1 s m #[Value.ref b] below meth c H locs cells slots (lw_Z below #[Value.ref b] s) (F0 m 1635 ls [])) : W p l e room_1 s m #[Value.ref b] below meth c H locs cells slots (lw_Z below #[Value.ref b] s) (F0 m 1001 ls []) := by
  obtain ⟨hx, hb, hr, hml, hown, hts, hX, hbl, hlocks, hgv⟩ := id C0
  have hown : s.vm.findClass RL = some m.cls := hown
  have hts := fun w h => hts w (wsL_law_in w h)
  have hA : ∀ q : Nat, s.heap.size ≤ q → A q := by rw [hAe]; exact fun _ h => h
  have hbA : ¬ A b := by rw [hAe]; exact Nat.not_le.mpr hbl
  have h10 : τ ≤ 10 := by have h9 : 0 ≤ (σ.1 0 6).toInt ∧ (σ.1 0 6).toInt ≤ 10 := hC.1 0 6; have := hC.2.2; omega
  have hC0 := hC
  have hM0 := hM
  refine lv_aload_n hx hb dL_law_1001 rfl (lv_at hl 2 rfl) ?_
  refine lv_aload_n hx hb dL_law_1002 rfl (lv_at hl 3 rfl) ?_
  refine lv_iload_n hx hb dL_law_1003 rfl (lv_at hl 0 rfl) ?_
  refine lv_iconst (v := nI 1) hx hb dL_law_1004 (by decide) ?_
  refine lv_iadd hx hb dL_law_1005 ?_
  refine va_sld hx hb hX hbl hbA hS (sc_in (k := 1) (by omega) (by omega)) dL_law_1006 ?_
  refine lv_topi (fun a1 ea1 => ?_)
  refine lv_aload_n hx hb dL_law_1007 rfl (lv_at hl 3 rfl) ?_
  refine lv_iload_n hx hb dL_law_1008 rfl (lv_at hl 0 rfl) ?_
  refine lv_iconst (v := nI 2) hx hb dL_law_1009 (by decide) ?_
  refine lv_iadd hx hb dL_law_1010 ?_
  refine va_sld hx hb hX hbl hbA hS (sc_in (k := 2) (by omega) (by omega)) dL_law_1011 ?_
  refine lv_topi (fun a2 ea2 => ?_)
  refine lv_aload_n hx hb dL_law_1012 rfl (lv_at hl 3 rfl) ?_
  refine lv_iload_n hx hb dL_law_1013 rfl (lv_at hl 0 rfl) ?_
  refine lv_iconst (v := nI 3) hx hb dL_law_1014 (by decide) ?_
  refine lv_iadd hx hb dL_law_1015 ?_
  refine va_sld hx hb hX hbl hbA hS (sc_in (k := 3) (by omega) (by omega)) dL_law_1016 ?_
  refine lv_topi (fun a3 ea3 => ?_)
  obtain ⟨r4, hf4, hq4⟩ := (sX11_noon τ σ a1 a2 a3 hC)
  have hPc := tb_lP hP
  have hDc := tb_lD hD
  have hFc := fr_A hDc hS hA
  refine va_calli (va_runV (As := [.int a1, .int a2, .int a3]) (rest := []) ⟨hx, hb, hml, hown, hts⟩ (tX11_noon l dC dI cy ad τ (τ + 1) (by omega) σ a1 a2 a3 H.size r4 hf4) (cwV 3 hts gL_law_X11_noon rfl rfl rfl (by decide +kernel) ⟨Nat.le_of_ble_eq_true rfl, Nat.le_of_ble_eq_true rfl⟩) (wp_V hK hN hPc hDc (va_recv hK hPc (ci := 11) (q0 := 0) rfl (wG_of (by omega) (cC_0 _ _ _ _ _)))) rfl rfl hl.1 rfl (lv_room (Nat.le_of_ble_eq_true rfl)) dL_law_1017 ⟨by show cells + 0 ≤ 600000; omega, by show slots + 0 ≤ 7302250; omega⟩) hS (fun q _ h => hFc q h) hFc (fun r9 u9 t9 H1 locs ht hvm hw4 hB hz1 hk1 hS => ?_)
  obtain rfl : r4 = r9 := hw4.symm
  obtain ⟨hP1, hD1⟩ := hB
  rw [ht] at hP1
  obtain ⟨hP, hD⟩ := tb_fj hP hD hk1 hFc hP1 hD1
  generalize H1 = H at hP hS ⊢
  refine lv_pop hx hb dL_law_1020 rfl ?_
  refine lv_aload_n hx hb dL_law_1021 rfl (lv_at hl 1 rfl) ?_
  refine lv_aload_n hx hb dL_law_1022 rfl (lv_at hl 3 rfl) ?_
  refine lv_iload_n hx hb dL_law_1023 rfl (lv_at hl 0 rfl) ?_
  refine lv_iconst (v := nI 1) hx hb dL_law_1024 (by decide) ?_
  refine lv_iadd hx hb dL_law_1025 ?_
  refine va_sld hx hb hX hbl hbA hS (sc_in (k := 1) (by omega) (by omega)) dL_law_1026 ?_
  refine lv_topi (fun a5 ea5 => ?_)
  obtain rfl : a1 = a5 := ea1.trans ea5.symm
  refine lv_aload_n hx hb dL_law_1027 rfl (lv_at hl 3 rfl) ?_
  refine lv_iload_n hx hb dL_law_1028 rfl (lv_at hl 0 rfl) ?_
  refine lv_iconst (v := nI 2) hx hb dL_law_1029 (by decide) ?_
  refine lv_iadd hx hb dL_law_1030 ?_
  refine va_sld hx hb hX hbl hbA hS (sc_in (k := 2) (by omega) (by omega)) dL_law_1031 ?_
  refine lv_topi (fun a6 ea6 => ?_)
  obtain rfl : a2 = a6 := ea2.trans ea6.symm
  refine lv_aload_n hx hb dL_law_1032 rfl (lv_at hl 3 rfl) ?_
  refine lv_iload_n hx hb dL_law_1033 rfl (lv_at hl 0 rfl) ?_
  refine lv_iconst (v := nI 3) hx hb dL_law_1034 (by decide) ?_
  refine lv_iadd hx hb dL_law_1035 ?_
  refine va_sld hx hb hX hbl hbA hS (sc_in (k := 3) (by omega) (by omega)) dL_law_1036 ?_
  refine lv_topi (fun a7 ea7 => ?_)
  obtain rfl : a3 = a7 := ea3.trans ea7.symm
  obtain ⟨r8, hf8, hq8⟩ := (sX12_noon σm a1 a2 a3 hM)
  have hP := tb_swP hP
  have hD := tb_swD hD
  have hPc := tb_lP hP
  have hDc := tb_lD hD
  have hFc := fr_A hDc hS hA
  refine va_calli (va_runV (As := [.int a1, .int a2, .int a3]) (rest := []) ⟨hx, hb, hml, hown, hts⟩ (tX12_noon l dC dI cy adm σm a1 a2 a3 H.size r8 hf8) (cwV 3 hts gL_law_X12_noon rfl rfl rfl (by decide +kernel) ⟨Nat.le_of_ble_eq_true rfl, Nat.le_of_ble_eq_true rfl⟩) (wp_V hK hN hPc hDc (va_recv hK hPc (ci := 12) (q0 := 0) rfl (wG_of (by omega) rfl))) rfl rfl hl.1 rfl (lv_room (Nat.le_of_ble_eq_true rfl)) dL_law_1037 ⟨by show cells + 0 ≤ 600000; omega, by show slots + 0 ≤ 7302250; omega⟩) hS (fun q _ h => hFc q h) hFc (fun r9 u9 t9 H1 locs ht hvm hw8 hB hz1 hk1 hS => ?_)
  obtain rfl : r8 = r9 := hw8.symm
  obtain ⟨hP1, hD1⟩ := hB
  rw [ht] at hP1
  obtain ⟨hP, hD⟩ := tb_fj hP hD hk1 hFc hP1 hD1
  generalize H1 = H at hP hS ⊢
  have hP := tb_swP hP
  have hD := tb_swD hD
  refine lv_pop hx hb dL_law_1040 rfl ?_
  refine lv_goto (tgt := 1635) hx hb dL_law_1041 (by decide) ?_
  exact kk τ ad adm σ σm H locs ls _ _ hP hD hS hl hC hM (RelA.fr (a := 0) (b := 0) hR (Fr.rf _) (Fr.rf _) rfl rfl) (by omega) (by omega)

set_option maxHeartbeats 4000000 in
set_option maxRecDepth 100000 in
theorem lawc_24 {p : Program} {l : Launch} {e : Env} {s : State} {m : MethodId} {below : List Frame} {meth : Method} {c : Code} {A : Nat → Prop} {b L : Nat} {xs : Nat → Int32} {dC : Nat → ClassId} {dI : Nat → Nat → Nat} {cy : Nat → ClassId} {t : Nat} (C0 : lw_At p s m meth c b L xs) (hL : L ≤ 3072) (hAe : A = fun q : Nat => s.heap.size ≤ q) (hK : va_K (dC, dI) vwCl (tyl cy) s) (hN : NW s) (hZ : va_Z "SeatsRound" "KIND_ABOVE" "[I" (.ref t) A s s.heap) (hT : va_T .int t 7 (fun j => .int (kaI j)) A s s.heap) {i : Nat} (hi : i + 6 ≤ L) {τ : Nat} {ad adm : Nat → Nat} {σ σm : S2} {H : Heap} {locs : List Loc} {ls : Array Slot} {cells slots : Nat} (hP : va_P (dC, dI) vwCl (wG (cC cy ad τ) ad (182 + 6 * (τ + 1)) σ ++ wG (cM cy adm) adm 40 σm) H) (hD : va_D A (wG (cC cy ad τ) ad (182 + 6 * (τ + 1)) σ ++ wG (cM cy adm) adm 40 σm)) (hS : va_S A s.heap H locs) (hl : lv_has ls 4 [(3, .int (nI i)), (2, .ref (adm 0)), (1, .ref (ad 0)), (0, .ref b)]) (hC : IvC 0 τ σ) (hM : IvM 0 σm) (hR : RelL σ σm) (hc : cells ≤ 228 + i) (hs : slots ≤ 23896 + 353 * i) (kk : ∀ (τ : Nat) (ad adm : Nat → Nat) (σ σm : S2) (H : Heap) (locs : List Loc) (ls : Array Slot) (cells slots : Nat), va_P (dC, dI) vwCl (wG (cC cy ad τ) ad (182 + 6 * (τ + 1)) σ ++ wG (cM cy adm) adm 40 σm) H → va_D A (wG (cC cy ad τ) ad (182 + 6 * (τ + 1)) σ ++ wG (cM cy adm) adm 40 σm) → va_S A s.heap H locs → lv_has ls 4 [(3, .int (nI i)), (2, .ref (adm 0)), (1, .ref (ad 0)), (0, .ref b)] → IvC 0 τ σ → IvM 0 σm → RelL σ σm → cells ≤ 228 + (i + 6) → slots ≤ 23896 + 353 * (i + 6) → W p l e room_1 s m #[Value.ref b] below meth c H locs cells slots (lw_Z below #[Value.ref b] s) (F0 m 1635 ls [])) : W p l e room_1 s m #[Value.ref b] below meth c H locs cells slots (lw_Z below #[Value.ref b] s) (F0 m 1044 ls []) := by
  obtain ⟨hx, hb, hr, hml, hown, hts, hX, hbl, hlocks, hgv⟩ := id C0
  have hown : s.vm.findClass RL = some m.cls := hown
  have hts := fun w h => hts w (wsL_law_in w h)
  have hA : ∀ q : Nat, s.heap.size ≤ q → A q := by rw [hAe]; exact fun _ h => h
  have hbA : ¬ A b := by rw [hAe]; exact Nat.not_le.mpr hbl
  have h10 : τ ≤ 10 := by have h9 : 0 ≤ (σ.1 0 6).toInt ∧ (σ.1 0 6).toInt ≤ 10 := hC.1 0 6; have := hC.2.2; omega
  have hC0 := hC
  have hM0 := hM
  refine lv_aload_n hx hb dL_law_1044 rfl (lv_at hl 2 rfl) ?_
  refine lv_aload_n hx hb dL_law_1045 rfl (lv_at hl 3 rfl) ?_
  refine lv_iload_n hx hb dL_law_1046 rfl (lv_at hl 0 rfl) ?_
  refine lv_iconst (v := nI 1) hx hb dL_law_1047 (by decide) ?_
  refine lv_iadd hx hb dL_law_1048 ?_
  refine va_sld hx hb hX hbl hbA hS (sc_in (k := 1) (by omega) (by omega)) dL_law_1049 ?_
  refine lv_topi (fun a1 ea1 => ?_)
  refine lv_aload_n hx hb dL_law_1050 rfl (lv_at hl 3 rfl) ?_
  refine lv_iload_n hx hb dL_law_1051 rfl (lv_at hl 0 rfl) ?_
  refine lv_iconst (v := nI 2) hx hb dL_law_1052 (by decide) ?_
  refine lv_iadd hx hb dL_law_1053 ?_
  refine va_sld hx hb hX hbl hbA hS (sc_in (k := 2) (by omega) (by omega)) dL_law_1054 ?_
  refine lv_topi (fun a2 ea2 => ?_)
  refine lv_aload_n hx hb dL_law_1055 rfl (lv_at hl 3 rfl) ?_
  refine lv_iload_n hx hb dL_law_1056 rfl (lv_at hl 0 rfl) ?_
  refine lv_iconst (v := nI 3) hx hb dL_law_1057 (by decide) ?_
  refine lv_iadd hx hb dL_law_1058 ?_
  refine va_sld hx hb hX hbl hbA hS (sc_in (k := 3) (by omega) (by omega)) dL_law_1059 ?_
  refine lv_topi (fun a3 ea3 => ?_)
  refine lv_aload_n hx hb dL_law_1060 rfl (lv_at hl 3 rfl) ?_
  refine lv_iload_n hx hb dL_law_1061 rfl (lv_at hl 0 rfl) ?_
  refine lv_iconst (v := nI 4) hx hb dL_law_1062 (by decide) ?_
  refine lv_iadd hx hb dL_law_1063 ?_
  refine va_sld hx hb hX hbl hbA hS (sc_in (k := 4) (by omega) (by omega)) dL_law_1064 ?_
  refine lv_topi (fun a4 ea4 => ?_)
  obtain ⟨r5, hf5, hq5⟩ := (sX11_lies τ σ a1 a2 a3 a4 hC)
  have hPc := tb_lP hP
  have hDc := tb_lD hD
  have hFc := fr_A hDc hS hA
  refine va_calli (va_runV (As := [.int a1, .int a2, .int a3, .int a4]) (rest := []) ⟨hx, hb, hml, hown, hts⟩ (tX11_lies l dC dI cy ad τ (τ + 1) (by omega) σ a1 a2 a3 a4 H.size r5 hf5) (cwV 4 hts gL_law_X11_lies rfl rfl rfl (by decide +kernel) ⟨Nat.le_of_ble_eq_true rfl, Nat.le_of_ble_eq_true rfl⟩) (wp_V hK hN hPc hDc (va_recv hK hPc (ci := 11) (q0 := 0) rfl (wG_of (by omega) (cC_0 _ _ _ _ _)))) rfl rfl hl.1 rfl (lv_room (Nat.le_of_ble_eq_true rfl)) dL_law_1065 ⟨by show cells + 0 ≤ 600000; omega, by show slots + 0 ≤ 7302250; omega⟩) hS (fun q _ h => hFc q h) hFc (fun r9 u9 t9 H1 locs ht hvm hw5 hB hz1 hk1 hS => ?_)
  obtain rfl : r5 = r9 := hw5.symm
  obtain ⟨hP1, hD1⟩ := hB
  rw [ht] at hP1
  obtain ⟨hP, hD⟩ := tb_fj hP hD hk1 hFc hP1 hD1
  generalize H1 = H at hP hS ⊢
  refine lv_pop hx hb dL_law_1068 rfl ?_
  refine lv_aload_n hx hb dL_law_1069 rfl (lv_at hl 1 rfl) ?_
  refine lv_aload_n hx hb dL_law_1070 rfl (lv_at hl 3 rfl) ?_
  refine lv_iload_n hx hb dL_law_1071 rfl (lv_at hl 0 rfl) ?_
  refine lv_iconst (v := nI 1) hx hb dL_law_1072 (by decide) ?_
  refine lv_iadd hx hb dL_law_1073 ?_
  refine va_sld hx hb hX hbl hbA hS (sc_in (k := 1) (by omega) (by omega)) dL_law_1074 ?_
  refine lv_topi (fun a6 ea6 => ?_)
  obtain rfl : a1 = a6 := ea1.trans ea6.symm
  refine lv_aload_n hx hb dL_law_1075 rfl (lv_at hl 3 rfl) ?_
  refine lv_iload_n hx hb dL_law_1076 rfl (lv_at hl 0 rfl) ?_
  refine lv_iconst (v := nI 2) hx hb dL_law_1077 (by decide) ?_
  refine lv_iadd hx hb dL_law_1078 ?_
  refine va_sld hx hb hX hbl hbA hS (sc_in (k := 2) (by omega) (by omega)) dL_law_1079 ?_
  refine lv_topi (fun a7 ea7 => ?_)
  obtain rfl : a2 = a7 := ea2.trans ea7.symm
  refine lv_aload_n hx hb dL_law_1080 rfl (lv_at hl 3 rfl) ?_
  refine lv_iload_n hx hb dL_law_1081 rfl (lv_at hl 0 rfl) ?_
  refine lv_iconst (v := nI 3) hx hb dL_law_1082 (by decide) ?_
  refine lv_iadd hx hb dL_law_1083 ?_
  refine va_sld hx hb hX hbl hbA hS (sc_in (k := 3) (by omega) (by omega)) dL_law_1084 ?_
  refine lv_topi (fun a8 ea8 => ?_)
  obtain rfl : a3 = a8 := ea3.trans ea8.symm
  refine lv_aload_n hx hb dL_law_1085 rfl (lv_at hl 3 rfl) ?_
  refine lv_iload_n hx hb dL_law_1086 rfl (lv_at hl 0 rfl) ?_
  refine lv_iconst (v := nI 4) hx hb dL_law_1087 (by decide) ?_
  refine lv_iadd hx hb dL_law_1088 ?_
  refine va_sld hx hb hX hbl hbA hS (sc_in (k := 4) (by omega) (by omega)) dL_law_1089 ?_
  refine lv_topi (fun a9 ea9 => ?_)
  obtain rfl : a4 = a9 := ea4.trans ea9.symm
  obtain ⟨r10, hf10, hq10⟩ := (sX12_lies σm a1 a2 a3 a4 hM)
  have hP := tb_swP hP
  have hD := tb_swD hD
  have hPc := tb_lP hP
  have hDc := tb_lD hD
  have hFc := fr_A hDc hS hA
  refine va_calli (va_runV (As := [.int a1, .int a2, .int a3, .int a4]) (rest := []) ⟨hx, hb, hml, hown, hts⟩ (tX12_lies l dC dI cy adm σm a1 a2 a3 a4 H.size r10 hf10) (cwV 4 hts gL_law_X12_lies rfl rfl rfl (by decide +kernel) ⟨Nat.le_of_ble_eq_true rfl, Nat.le_of_ble_eq_true rfl⟩) (wp_V hK hN hPc hDc (va_recv hK hPc (ci := 12) (q0 := 0) rfl (wG_of (by omega) rfl))) rfl rfl hl.1 rfl (lv_room (Nat.le_of_ble_eq_true rfl)) dL_law_1090 ⟨by show cells + 0 ≤ 600000; omega, by show slots + 0 ≤ 7302250; omega⟩) hS (fun q _ h => hFc q h) hFc (fun r9 u9 t9 H1 locs ht hvm hw10 hB hz1 hk1 hS => ?_)
  obtain rfl : r10 = r9 := hw10.symm
  obtain ⟨hP1, hD1⟩ := hB
  rw [ht] at hP1
  obtain ⟨hP, hD⟩ := tb_fj hP hD hk1 hFc hP1 hD1
  generalize H1 = H at hP hS ⊢
  have hP := tb_swP hP
  have hD := tb_swD hD
  refine lv_pop hx hb dL_law_1093 rfl ?_
  refine lv_goto (tgt := 1635) hx hb dL_law_1094 (by decide) ?_
  exact kk τ ad adm σ σm H locs ls _ _ hP hD hS hl hC hM (RelA.fr (a := 0) (b := 0) hR (Fr.rf _) (Fr.rf _) rfl rfl) (by omega) (by omega)

set_option maxHeartbeats 4000000 in
set_option maxRecDepth 100000 in
theorem lawc_25 {p : Program} {l : Launch} {e : Env} {s : State} {m : MethodId} {below : List Frame} {meth : Method} {c : Code} {A : Nat → Prop} {b L : Nat} {xs : Nat → Int32} {dC : Nat → ClassId} {dI : Nat → Nat → Nat} {cy : Nat → ClassId} {t : Nat} (C0 : lw_At p s m meth c b L xs) (hL : L ≤ 3072) (hAe : A = fun q : Nat => s.heap.size ≤ q) (hK : va_K (dC, dI) vwCl (tyl cy) s) (hN : NW s) (hZ : va_Z "SeatsRound" "KIND_ABOVE" "[I" (.ref t) A s s.heap) (hT : va_T .int t 7 (fun j => .int (kaI j)) A s s.heap) {i : Nat} (hi : i + 6 ≤ L) {τ : Nat} {ad adm : Nat → Nat} {σ σm : S2} {H : Heap} {locs : List Loc} {ls : Array Slot} {cells slots : Nat} (hP : va_P (dC, dI) vwCl (wG (cC cy ad τ) ad (182 + 6 * (τ + 1)) σ ++ wG (cM cy adm) adm 40 σm) H) (hD : va_D A (wG (cC cy ad τ) ad (182 + 6 * (τ + 1)) σ ++ wG (cM cy adm) adm 40 σm)) (hS : va_S A s.heap H locs) (hl : lv_has ls 4 [(3, .int (nI i)), (2, .ref (adm 0)), (1, .ref (ad 0)), (0, .ref b)]) (hC : IvC 0 τ σ) (hM : IvM 0 σm) (hR : RelL σ σm) (hc : cells ≤ 228 + i) (hs : slots ≤ 23896 + 353 * i) (kk : ∀ (τ : Nat) (ad adm : Nat → Nat) (σ σm : S2) (H : Heap) (locs : List Loc) (ls : Array Slot) (cells slots : Nat), va_P (dC, dI) vwCl (wG (cC cy ad τ) ad (182 + 6 * (τ + 1)) σ ++ wG (cM cy adm) adm 40 σm) H → va_D A (wG (cC cy ad τ) ad (182 + 6 * (τ + 1)) σ ++ wG (cM cy adm) adm 40 σm) → va_S A s.heap H locs → lv_has ls 4 [(3, .int (nI i)), (2, .ref (adm 0)), (1, .ref (ad 0)), (0, .ref b)] → IvC 0 τ σ → IvM 0 σm → RelL σ σm → cells ≤ 228 + (i + 6) → slots ≤ 23896 + 353 * (i + 6) → W p l e room_1 s m #[Value.ref b] below meth c H locs cells slots (lw_Z below #[Value.ref b] s) (F0 m 1635 ls [])) : W p l e room_1 s m #[Value.ref b] below meth c H locs cells slots (lw_Z below #[Value.ref b] s) (F0 m 1097 ls []) := by
  obtain ⟨hx, hb, hr, hml, hown, hts, hX, hbl, hlocks, hgv⟩ := id C0
  have hown : s.vm.findClass RL = some m.cls := hown
  have hts := fun w h => hts w (wsL_law_in w h)
  have hA : ∀ q : Nat, s.heap.size ≤ q → A q := by rw [hAe]; exact fun _ h => h
  have hbA : ¬ A b := by rw [hAe]; exact Nat.not_le.mpr hbl
  have h10 : τ ≤ 10 := by have h9 : 0 ≤ (σ.1 0 6).toInt ∧ (σ.1 0 6).toInt ≤ 10 := hC.1 0 6; have := hC.2.2; omega
  have hC0 := hC
  have hM0 := hM
  refine lv_aload_n hx hb dL_law_1097 rfl (lv_at hl 2 rfl) ?_
  refine lv_aload_n hx hb dL_law_1098 rfl (lv_at hl 3 rfl) ?_
  refine lv_iload_n hx hb dL_law_1099 rfl (lv_at hl 0 rfl) ?_
  refine lv_iconst (v := nI 1) hx hb dL_law_1100 (by decide) ?_
  refine lv_iadd hx hb dL_law_1101 ?_
  refine va_sld hx hb hX hbl hbA hS (sc_in (k := 1) (by omega) (by omega)) dL_law_1102 ?_
  refine lv_topi (fun a1 ea1 => ?_)
  obtain ⟨⟨r2, σ2⟩, hf2, hq2⟩ := (sX11_comes τ σ a1 hC)
  have hPc := tb_lP hP
  have hDc := tb_lD hD
  have hFc := fr_A hDc hS hA
  refine va_calli (va_runV (As := [.int a1]) (rest := []) ⟨hx, hb, hml, hown, hts⟩ (tX11_comes l dC dI cy ad τ (τ + 1) (by omega) σ a1 H.size r2 σ2 hf2) (cwV 1 hts gL_law_X11_comes rfl rfl rfl (by decide +kernel) ⟨Nat.le_of_ble_eq_true rfl, Nat.le_of_ble_eq_true rfl⟩) (wp_V hK hN hPc hDc (va_recv hK hPc (ci := 11) (q0 := 0) rfl (wG_of (by omega) (cC_0 _ _ _ _ _)))) rfl rfl hl.1 rfl (lv_room (Nat.le_of_ble_eq_true rfl)) dL_law_1103 ⟨by show cells + 0 ≤ 600000; omega, by show slots + 0 ≤ 7302250; omega⟩) hS (fun q _ h => hFc q h) hFc (fun r9 u9 t9 H1 locs ht hvm hw2 hB hz1 hk1 hS => ?_)
  obtain rfl : r2 = r9 := hw2.symm
  obtain ⟨hP1, hD1⟩ := hB
  rw [ht] at hP1
  obtain ⟨hP, hD⟩ := tb_fj hP hD hk1 hFc hP1 hD1
  generalize H1 = H at hP hS ⊢
  have hC : IvC 0 τ σ2 := by first | exact hq2 | exact hq2.1
  refine lv_pop hx hb dL_law_1106 rfl ?_
  refine lv_aload_n hx hb dL_law_1107 rfl (lv_at hl 1 rfl) ?_
  refine lv_aload_n hx hb dL_law_1108 rfl (lv_at hl 3 rfl) ?_
  refine lv_iload_n hx hb dL_law_1109 rfl (lv_at hl 0 rfl) ?_
  refine lv_iconst (v := nI 1) hx hb dL_law_1110 (by decide) ?_
  refine lv_iadd hx hb dL_law_1111 ?_
  refine va_sld hx hb hX hbl hbA hS (sc_in (k := 1) (by omega) (by omega)) dL_law_1112 ?_
  refine lv_topi (fun a3 ea3 => ?_)
  obtain rfl : a1 = a3 := ea1.trans ea3.symm
  obtain ⟨⟨r4, ρ4⟩, hf4, hq4⟩ := (sX12_comes σm a1 hM)
  have hP := tb_swP hP
  have hD := tb_swD hD
  have hPc := tb_lP hP
  have hDc := tb_lD hD
  have hFc := fr_A hDc hS hA
  refine va_calli (va_runV (As := [.int a1]) (rest := []) ⟨hx, hb, hml, hown, hts⟩ (tX12_comes l dC dI cy adm σm a1 H.size r4 ρ4 hf4) (cwV 1 hts gL_law_X12_comes rfl rfl rfl (by decide +kernel) ⟨Nat.le_of_ble_eq_true rfl, Nat.le_of_ble_eq_true rfl⟩) (wp_V hK hN hPc hDc (va_recv hK hPc (ci := 12) (q0 := 0) rfl (wG_of (by omega) rfl))) rfl rfl hl.1 rfl (lv_room (Nat.le_of_ble_eq_true rfl)) dL_law_1113 ⟨by show cells + 0 ≤ 600000; omega, by show slots + 0 ≤ 7302250; omega⟩) hS (fun q _ h => hFc q h) hFc (fun r9 u9 t9 H1 locs ht hvm hw4 hB hz1 hk1 hS => ?_)
  obtain rfl : r4 = r9 := hw4.symm
  obtain ⟨hP1, hD1⟩ := hB
  rw [ht] at hP1
  obtain ⟨hP, hD⟩ := tb_fj hP hD hk1 hFc hP1 hD1
  generalize H1 = H at hP hS ⊢
  have hP := tb_swP hP
  have hD := tb_swD hD
  have hM : IvM 0 ρ4 := by first | exact hq4 | exact hq4.1
  refine lv_pop hx hb dL_law_1116 rfl ?_
  refine lv_goto (tgt := 1635) hx hb dL_law_1117 (by decide) ?_
  exact kk τ ad adm σ2 ρ4 H locs ls _ _ hP hD hS hl hC hM (RelA.fr (a := 65536) (b := 65536) hR (wfX11_comes (m := 65536) rfl _ _ _ (Fr.rf _) _ hf2) (wfX12_comes (m := 65536) rfl _ _ (Fr.rf _) _ hf4) rfl rfl) (by omega) (by omega)

set_option maxHeartbeats 4000000 in
set_option maxRecDepth 100000 in
theorem lawc_26 {p : Program} {l : Launch} {e : Env} {s : State} {m : MethodId} {below : List Frame} {meth : Method} {c : Code} {A : Nat → Prop} {b L : Nat} {xs : Nat → Int32} {dC : Nat → ClassId} {dI : Nat → Nat → Nat} {cy : Nat → ClassId} {t : Nat} (C0 : lw_At p s m meth c b L xs) (hL : L ≤ 3072) (hAe : A = fun q : Nat => s.heap.size ≤ q) (hK : va_K (dC, dI) vwCl (tyl cy) s) (hN : NW s) (hZ : va_Z "SeatsRound" "KIND_ABOVE" "[I" (.ref t) A s s.heap) (hT : va_T .int t 7 (fun j => .int (kaI j)) A s s.heap) {i : Nat} (hi : i + 6 ≤ L) {τ : Nat} {ad adm : Nat → Nat} {σ σm : S2} {H : Heap} {locs : List Loc} {ls : Array Slot} {cells slots : Nat} (hP : va_P (dC, dI) vwCl (wG (cC cy ad τ) ad (182 + 6 * (τ + 1)) σ ++ wG (cM cy adm) adm 40 σm) H) (hD : va_D A (wG (cC cy ad τ) ad (182 + 6 * (τ + 1)) σ ++ wG (cM cy adm) adm 40 σm)) (hS : va_S A s.heap H locs) (hl : lv_has ls 4 [(3, .int (nI i)), (2, .ref (adm 0)), (1, .ref (ad 0)), (0, .ref b)]) (hC : IvC 0 τ σ) (hM : IvM 0 σm) (hR : RelL σ σm) (hc : cells ≤ 228 + i) (hs : slots ≤ 23896 + 353 * i) (kk : ∀ (τ : Nat) (ad adm : Nat → Nat) (σ σm : S2) (H : Heap) (locs : List Loc) (ls : Array Slot) (cells slots : Nat), va_P (dC, dI) vwCl (wG (cC cy ad τ) ad (182 + 6 * (τ + 1)) σ ++ wG (cM cy adm) adm 40 σm) H → va_D A (wG (cC cy ad τ) ad (182 + 6 * (τ + 1)) σ ++ wG (cM cy adm) adm 40 σm) → va_S A s.heap H locs → lv_has ls 4 [(3, .int (nI i)), (2, .ref (adm 0)), (1, .ref (ad 0)), (0, .ref b)] → IvC 0 τ σ → IvM 0 σm → RelL σ σm → cells ≤ 228 + (i + 6) → slots ≤ 23896 + 353 * (i + 6) → W p l e room_1 s m #[Value.ref b] below meth c H locs cells slots (lw_Z below #[Value.ref b] s) (F0 m 1635 ls [])) : W p l e room_1 s m #[Value.ref b] below meth c H locs cells slots (lw_Z below #[Value.ref b] s) (F0 m 1120 ls []) := by
  obtain ⟨hx, hb, hr, hml, hown, hts, hX, hbl, hlocks, hgv⟩ := id C0
  have hown : s.vm.findClass RL = some m.cls := hown
  have hts := fun w h => hts w (wsL_law_in w h)
  have hA : ∀ q : Nat, s.heap.size ≤ q → A q := by rw [hAe]; exact fun _ h => h
  have hbA : ¬ A b := by rw [hAe]; exact Nat.not_le.mpr hbl
  have h10 : τ ≤ 10 := by have h9 : 0 ≤ (σ.1 0 6).toInt ∧ (σ.1 0 6).toInt ≤ 10 := hC.1 0 6; have := hC.2.2; omega
  have hC0 := hC
  have hM0 := hM
  refine lv_aload_n hx hb dL_law_1120 rfl (lv_at hl 2 rfl) ?_
  refine lv_aload_n hx hb dL_law_1121 rfl (lv_at hl 3 rfl) ?_
  refine lv_iload_n hx hb dL_law_1122 rfl (lv_at hl 0 rfl) ?_
  refine lv_iconst (v := nI 1) hx hb dL_law_1123 (by decide) ?_
  refine lv_iadd hx hb dL_law_1124 ?_
  refine va_sld hx hb hX hbl hbA hS (sc_in (k := 1) (by omega) (by omega)) dL_law_1125 ?_
  refine lv_topi (fun a1 ea1 => ?_)
  obtain ⟨⟨r2, σ2⟩, hf2, hq2⟩ := (sX11_order τ σ a1 hC)
  have hPc := tb_lP hP
  have hDc := tb_lD hD
  have hFc := fr_A hDc hS hA
  refine va_calli (va_runV (As := [.int a1]) (rest := []) ⟨hx, hb, hml, hown, hts⟩ (tX11_order l dC dI cy ad τ (τ + 1) (by omega) σ a1 H.size r2 σ2 hf2) (cwV 1 hts gL_law_X11_order rfl rfl rfl (by decide +kernel) ⟨Nat.le_of_ble_eq_true rfl, Nat.le_of_ble_eq_true rfl⟩) (wp_V hK hN hPc hDc (va_recv hK hPc (ci := 11) (q0 := 0) rfl (wG_of (by omega) (cC_0 _ _ _ _ _)))) rfl rfl hl.1 rfl (lv_room (Nat.le_of_ble_eq_true rfl)) dL_law_1126 ⟨by show cells + 0 ≤ 600000; omega, by show slots + 0 ≤ 7302250; omega⟩) hS (fun q _ h => hFc q h) hFc (fun r9 u9 t9 H1 locs ht hvm hw2 hB hz1 hk1 hS => ?_)
  obtain rfl : r2 = r9 := hw2.symm
  obtain ⟨hP1, hD1⟩ := hB
  rw [ht] at hP1
  obtain ⟨hP, hD⟩ := tb_fj hP hD hk1 hFc hP1 hD1
  generalize H1 = H at hP hS ⊢
  have hC : IvC 0 τ σ2 := by first | exact hq2 | exact hq2.1
  refine lv_pop hx hb dL_law_1129 rfl ?_
  refine lv_aload_n hx hb dL_law_1130 rfl (lv_at hl 1 rfl) ?_
  refine lv_aload_n hx hb dL_law_1131 rfl (lv_at hl 3 rfl) ?_
  refine lv_iload_n hx hb dL_law_1132 rfl (lv_at hl 0 rfl) ?_
  refine lv_iconst (v := nI 1) hx hb dL_law_1133 (by decide) ?_
  refine lv_iadd hx hb dL_law_1134 ?_
  refine va_sld hx hb hX hbl hbA hS (sc_in (k := 1) (by omega) (by omega)) dL_law_1135 ?_
  refine lv_topi (fun a3 ea3 => ?_)
  obtain rfl : a1 = a3 := ea1.trans ea3.symm
  obtain ⟨⟨r4, ρ4⟩, hf4, hq4⟩ := (sX12_order σm a1 hM rfl)
  have hP := tb_swP hP
  have hD := tb_swD hD
  have hPc := tb_lP hP
  have hDc := tb_lD hD
  have hFc := fr_A hDc hS hA
  refine va_calli (va_runV (As := [.int a1]) (rest := []) ⟨hx, hb, hml, hown, hts⟩ (tX12_order l dC dI cy adm σm a1 H.size r4 ρ4 hf4) (cwV 1 hts gL_law_X12_order rfl rfl rfl (by decide +kernel) ⟨Nat.le_of_ble_eq_true rfl, Nat.le_of_ble_eq_true rfl⟩) (wp_V hK hN hPc hDc (va_recv hK hPc (ci := 12) (q0 := 0) rfl (wG_of (by omega) rfl))) rfl rfl hl.1 rfl (lv_room (Nat.le_of_ble_eq_true rfl)) dL_law_1136 ⟨by show cells + 0 ≤ 600000; omega, by show slots + 0 ≤ 7302250; omega⟩) hS (fun q _ h => hFc q h) hFc (fun r9 u9 t9 H1 locs ht hvm hw4 hB hz1 hk1 hS => ?_)
  obtain rfl : r4 = r9 := hw4.symm
  obtain ⟨hP1, hD1⟩ := hB
  rw [ht] at hP1
  obtain ⟨hP, hD⟩ := tb_fj hP hD hk1 hFc hP1 hD1
  generalize H1 = H at hP hS ⊢
  have hP := tb_swP hP
  have hD := tb_swD hD
  have hM : IvM 0 ρ4 := by first | exact hq4 | exact hq4.1
  refine lv_pop hx hb dL_law_1139 rfl ?_
  refine lv_goto (tgt := 1635) hx hb dL_law_1140 (by decide) ?_
  exact kk τ ad adm σ2 ρ4 H locs ls _ _ hP hD hS hl hC hM (RelA.fr (a := 8586241) (b := 197121) hR (wfX11_order (m := 8586241) rfl _ _ _ (Fr.rf _) _ hf2) (wfX12_order (m := 197121) rfl _ _ (Fr.rf _) _ hf4) rfl rfl) (by omega) (by omega)

set_option maxHeartbeats 4000000 in
set_option maxRecDepth 100000 in
theorem lawc_27 {p : Program} {l : Launch} {e : Env} {s : State} {m : MethodId} {below : List Frame} {meth : Method} {c : Code} {A : Nat → Prop} {b L : Nat} {xs : Nat → Int32} {dC : Nat → ClassId} {dI : Nat → Nat → Nat} {cy : Nat → ClassId} {t : Nat} (C0 : lw_At p s m meth c b L xs) (hL : L ≤ 3072) (hAe : A = fun q : Nat => s.heap.size ≤ q) (hK : va_K (dC, dI) vwCl (tyl cy) s) (hN : NW s) (hZ : va_Z "SeatsRound" "KIND_ABOVE" "[I" (.ref t) A s s.heap) (hT : va_T .int t 7 (fun j => .int (kaI j)) A s s.heap) {i : Nat} (hi : i + 6 ≤ L) {τ : Nat} {ad adm : Nat → Nat} {σ σm : S2} {H : Heap} {locs : List Loc} {ls : Array Slot} {cells slots : Nat} (hP : va_P (dC, dI) vwCl (wG (cC cy ad τ) ad (182 + 6 * (τ + 1)) σ ++ wG (cM cy adm) adm 40 σm) H) (hD : va_D A (wG (cC cy ad τ) ad (182 + 6 * (τ + 1)) σ ++ wG (cM cy adm) adm 40 σm)) (hS : va_S A s.heap H locs) (hl : lv_has ls 4 [(3, .int (nI i)), (2, .ref (adm 0)), (1, .ref (ad 0)), (0, .ref b)]) (hC : IvC 0 τ σ) (hM : IvM 0 σm) (hR : RelL σ σm) (hc : cells ≤ 228 + i) (hs : slots ≤ 23896 + 353 * i) (kk : ∀ (τ : Nat) (ad adm : Nat → Nat) (σ σm : S2) (H : Heap) (locs : List Loc) (ls : Array Slot) (cells slots : Nat), va_P (dC, dI) vwCl (wG (cC cy ad τ) ad (182 + 6 * (τ + 1)) σ ++ wG (cM cy adm) adm 40 σm) H → va_D A (wG (cC cy ad τ) ad (182 + 6 * (τ + 1)) σ ++ wG (cM cy adm) adm 40 σm) → va_S A s.heap H locs → lv_has ls 4 [(3, .int (nI i)), (2, .ref (adm 0)), (1, .ref (ad 0)), (0, .ref b)] → IvC 0 τ σ → IvM 0 σm → RelL σ σm → cells ≤ 228 + (i + 6) → slots ≤ 23896 + 353 * (i + 6) → W p l e room_1 s m #[Value.ref b] below meth c H locs cells slots (lw_Z below #[Value.ref b] s) (F0 m 1635 ls [])) : W p l e room_1 s m #[Value.ref b] below meth c H locs cells slots (lw_Z below #[Value.ref b] s) (F0 m 1143 ls []) := by
  obtain ⟨hx, hb, hr, hml, hown, hts, hX, hbl, hlocks, hgv⟩ := id C0
  have hown : s.vm.findClass RL = some m.cls := hown
  have hts := fun w h => hts w (wsL_law_in w h)
  have hA : ∀ q : Nat, s.heap.size ≤ q → A q := by rw [hAe]; exact fun _ h => h
  have hbA : ¬ A b := by rw [hAe]; exact Nat.not_le.mpr hbl
  have h10 : τ ≤ 10 := by have h9 : 0 ≤ (σ.1 0 6).toInt ∧ (σ.1 0 6).toInt ≤ 10 := hC.1 0 6; have := hC.2.2; omega
  have hC0 := hC
  have hM0 := hM
  refine lv_aload_n hx hb dL_law_1143 rfl (lv_at hl 2 rfl) ?_
  refine lv_aload_n hx hb dL_law_1144 rfl (lv_at hl 3 rfl) ?_
  refine lv_iload_n hx hb dL_law_1145 rfl (lv_at hl 0 rfl) ?_
  refine lv_iconst (v := nI 1) hx hb dL_law_1146 (by decide) ?_
  refine lv_iadd hx hb dL_law_1147 ?_
  refine va_sld hx hb hX hbl hbA hS (sc_in (k := 1) (by omega) (by omega)) dL_law_1148 ?_
  refine lv_topi (fun a1 ea1 => ?_)
  obtain ⟨r2, hf2, hq2⟩ := (sX11_ordered τ σ a1 hC)
  have hPc := tb_lP hP
  have hDc := tb_lD hD
  have hFc := fr_A hDc hS hA
  refine va_calli (va_runV (As := [.int a1]) (rest := []) ⟨hx, hb, hml, hown, hts⟩ (tX11_ordered l dC dI cy ad τ (τ + 1) (by omega) σ a1 H.size r2 hf2) (cwV 1 hts gL_law_X11_ordered rfl rfl rfl (by decide +kernel) ⟨Nat.le_of_ble_eq_true rfl, Nat.le_of_ble_eq_true rfl⟩) (wp_V hK hN hPc hDc (va_recv hK hPc (ci := 11) (q0 := 0) rfl (wG_of (by omega) (cC_0 _ _ _ _ _)))) rfl rfl hl.1 rfl (lv_room (Nat.le_of_ble_eq_true rfl)) dL_law_1149 ⟨by show cells + 0 ≤ 600000; omega, by show slots + 0 ≤ 7302250; omega⟩) hS (fun q _ h => hFc q h) hFc (fun r9 u9 t9 H1 locs ht hvm hw2 hB hz1 hk1 hS => ?_)
  obtain rfl : r2 = r9 := hw2.symm
  obtain ⟨hP1, hD1⟩ := hB
  rw [ht] at hP1
  obtain ⟨hP, hD⟩ := tb_fj hP hD hk1 hFc hP1 hD1
  generalize H1 = H at hP hS ⊢
  refine lv_pop hx hb dL_law_1152 rfl ?_
  refine lv_aload_n hx hb dL_law_1153 rfl (lv_at hl 1 rfl) ?_
  refine lv_aload_n hx hb dL_law_1154 rfl (lv_at hl 3 rfl) ?_
  refine lv_iload_n hx hb dL_law_1155 rfl (lv_at hl 0 rfl) ?_
  refine lv_iconst (v := nI 1) hx hb dL_law_1156 (by decide) ?_
  refine lv_iadd hx hb dL_law_1157 ?_
  refine va_sld hx hb hX hbl hbA hS (sc_in (k := 1) (by omega) (by omega)) dL_law_1158 ?_
  refine lv_topi (fun a3 ea3 => ?_)
  obtain rfl : a1 = a3 := ea1.trans ea3.symm
  obtain ⟨r4, hf4, hq4⟩ := (sX12_ordered σm a1 hM)
  have hP := tb_swP hP
  have hD := tb_swD hD
  have hPc := tb_lP hP
  have hDc := tb_lD hD
  have hFc := fr_A hDc hS hA
  refine va_calli (va_runV (As := [.int a1]) (rest := []) ⟨hx, hb, hml, hown, hts⟩ (tX12_ordered l dC dI cy adm σm a1 H.size r4 hf4) (cwV 1 hts gL_law_X12_ordered rfl rfl rfl (by decide +kernel) ⟨Nat.le_of_ble_eq_true rfl, Nat.le_of_ble_eq_true rfl⟩) (wp_V hK hN hPc hDc (va_recv hK hPc (ci := 12) (q0 := 0) rfl (wG_of (by omega) rfl))) rfl rfl hl.1 rfl (lv_room (Nat.le_of_ble_eq_true rfl)) dL_law_1159 ⟨by show cells + 0 ≤ 600000; omega, by show slots + 0 ≤ 7302250; omega⟩) hS (fun q _ h => hFc q h) hFc (fun r9 u9 t9 H1 locs ht hvm hw4 hB hz1 hk1 hS => ?_)
  obtain rfl : r4 = r9 := hw4.symm
  obtain ⟨hP1, hD1⟩ := hB
  rw [ht] at hP1
  obtain ⟨hP, hD⟩ := tb_fj hP hD hk1 hFc hP1 hD1
  generalize H1 = H at hP hS ⊢
  have hP := tb_swP hP
  have hD := tb_swD hD
  refine lv_pop hx hb dL_law_1162 rfl ?_
  refine lv_goto (tgt := 1635) hx hb dL_law_1163 (by decide) ?_
  exact kk τ ad adm σ σm H locs ls _ _ hP hD hS hl hC hM (RelA.fr (a := 0) (b := 0) hR (Fr.rf _) (Fr.rf _) rfl rfl) (by omega) (by omega)
