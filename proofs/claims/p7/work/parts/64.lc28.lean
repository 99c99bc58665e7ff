set_option maxHeartbeats 4000000 in
set_option maxRecDepth 100000 in
theorem lawc_28 {p : Program} {l : Launch} {e : Env} {s : State} {m : MethodId} {below : List Frame} {meth : Method} {c : Code} {A : Nat → Prop} {b L : Nat} {xs : Nat → Int32} {dC : Nat → ClassId} {dI : Nat → Nat → Nat} {cy : Nat → ClassId} {t : Nat} (C0 : lw_At p s m meth c b L xs) (hL : L ≤ 3072) (hAe : A = fun q : Nat => s.heap.size ≤ q) (hK : va_K (dC, dI) vwCl (tyl cy) s) (hN : NW s) (hZ : va_Z "SeatsRound" "KIND_ABOVE" "[I" (.ref t) A s s.heap) (hT : va_T .int t 7 (fun j => .int (kaI j)) A s s.heap) {i : Nat} (hi : i + 6 ≤ L) {τ : Nat} {ad adm : Nat → Nat} {σ σm : S2} {H : Heap} {locs : List Loc} {ls : Array Slot} {cells slots : Nat} (hP : va_P (dC, dI) vwCl (wG (cC cy ad τ) ad (182 + 6 * (τ + 1)) σ ++ wG (cM cy adm) adm 40 σm) H) (hD : va_D A (wG (cC cy ad τ) ad (182 + 6 * (τ + 1)) σ ++ wG (cM cy adm) adm 40 σm)) (hS : va_S A s.heap H locs) (hl : lv_has ls 4 [(3, .int (nI i)), (2, .ref (adm 0)), (1, .ref (ad 0)), (0, .ref b)]) (hC : IvC 0 τ σ) (hM : IvM 0 σm) (hR : RelL σ σm) (hc : cells ≤ 228 + i) (hs : slots ≤ 23896 + 353 * i) (kk : ∀ (τ : Nat) (ad adm : Nat → Nat) (σ σm : S2) (H : Heap) (locs : List Loc) (ls : Array Slot) (cells slots : Nat), va_P (dC, dI) vwCl (wG (cC cy ad τ) ad (182 + 6 * (τ + 1)) σ ++ wG (cM cy adm) adm 40 σm) H → va_D A (wG (cC cy ad τ) ad (182 + 6 * (τ + 1)) σ ++ wG (cM cy adm) adm 40 σm) → va_S A s.heap H locs → lv_has ls 4 [(3, .int (nI i)), (2, .ref (adm 0)), (1, .ref (ad 0)), (0, .ref b)] → IvC 0 τ σ → IvM 0 σm → RelL σ σm → cells ≤ 228 + (i + 6) → slots ≤ 23896 + 353 * (i + 6) → W p l e room_1 s m #[Value.ref b] below meth c H locs cells slots (lw_Z below #[Value.ref b] s) (F0 m 1635 ls [])) : W p l e room_1 s m #[Value.ref b] below meth c H locs cells slots (lw_Z below #[Value.ref b] s) (F0 m 1166 ls []) := by
  obtain ⟨hx, hb, hr, hml, hown, hts, hX, hbl, hlocks, hgv⟩ := id C0
  have hown : s.vm.findClass RL = some m.cls := hown
  have hts := fun w h => hts w (wsL_law_in w h)
  have hA : ∀ q : Nat, s.heap.size ≤ q → A q := by rw [hAe]; exact fun _ h => h
  have hbA : ¬ A b := by rw [hAe]; exact Nat.not_le.mpr hbl
  have h10 : τ ≤ 10 := by have h9 : 0 ≤ (σ.1 0 6).toInt ∧ (σ.1 0 6).toInt ≤ 10 := hC.1 0 6; have := hC.2.2; omega
  have hC0 := hC
  have hM0 := hM
  refine lv_aload_n hx hb dL_law_1166 rfl (lv_at hl 2 rfl) ?_
  refine lv_aload_n hx hb dL_law_1167 rfl (lv_at hl 3 rfl) ?_
  refine lv_iload_n hx hb dL_law_1168 rfl (lv_at hl 0 rfl) ?_
  refine lv_iconst (v := nI 1) hx hb dL_law_1169 (by decide) ?_
  refine lv_iadd hx hb dL_law_1170 ?_
  refine va_sld hx hb hX hbl hbA hS (sc_in (k := 1) (by omega) (by omega)) dL_law_1171 ?_
  refine lv_topi (fun a1 ea1 => ?_)
  obtain ⟨⟨r2, σ2⟩, hf2, hq2⟩ := (sX11_turning τ σ a1 hC)
  have hPc := tb_lP hP
  have hDc := tb_lD hD
  have hFc := fr_A hDc hS hA
  refine va_calli (va_runV (As := [.int a1]) (rest := []) ⟨hx, hb, hml, hown, hts⟩ (tX11_turning l dC dI cy ad τ (τ + 1) (by omega) σ a1 H.size r2 σ2 hf2) (cwV 1 hts gL_law_X11_turning rfl rfl rfl (by decide +kernel) ⟨Nat.le_of_ble_eq_true rfl, Nat.le_of_ble_eq_true rfl⟩) (wp_V hK hN hPc hDc (va_recv hK hPc (ci := 11) (q0 := 0) rfl (wG_of (by omega) (cC_0 _ _ _ _ _)))) rfl rfl hl.1 rfl (lv_room (Nat.le_of_ble_eq_true rfl)) dL_law_1172 ⟨by show cells + 0 ≤ 600000; omega, by show slots + 0 ≤ 7302250; omega⟩) hS (fun q _ h => hFc q h) hFc (fun r9 u9 t9 H1 locs ht hvm hw2 hB hz1 hk1 hS => ?_)
  obtain rfl : r2 = r9 := hw2.symm
  obtain ⟨hP1, hD1⟩ := hB
  rw [ht] at hP1
  obtain ⟨hP, hD⟩ := tb_fj hP hD hk1 hFc hP1 hD1
  generalize H1 = H at hP hS ⊢
  have hC : IvC 0 τ σ2 := by first | exact hq2 | exact hq2.1
  refine lv_pop hx hb dL_law_1175 rfl ?_
  refine lv_aload_n hx hb dL_law_1176 rfl (lv_at hl 1 rfl) ?_
  refine lv_aload_n hx hb dL_law_1177 rfl (lv_at hl 3 rfl) ?_
  refine lv_iload_n hx hb dL_law_1178 rfl (lv_at hl 0 rfl) ?_
  refine lv_iconst (v := nI 1) hx hb dL_law_1179 (by decide) ?_
  refine lv_iadd hx hb dL_law_1180 ?_
  refine va_sld hx hb hX hbl hbA hS (sc_in (k := 1) (by omega) (by omega)) dL_law_1181 ?_
  refine lv_topi (fun a3 ea3 => ?_)
  obtain rfl : a1 = a3 := ea1.trans ea3.symm
  obtain ⟨⟨r4, ρ4⟩, hf4, hq4⟩ := (sX12_turning σm a1 hM)
  have hP := tb_swP hP
  have hD := tb_swD hD
  have hPc := tb_lP hP
  have hDc := tb_lD hD
  have hFc := fr_A hDc hS hA
  refine va_calli (va_runV (As := [.int a1]) (rest := []) ⟨hx, hb, hml, hown, hts⟩ (tX12_turning l dC dI cy adm σm a1 H.size r4 ρ4 hf4) (cwV 1 hts gL_law_X12_turning rfl rfl rfl (by decide +kernel) ⟨Nat.le_of_ble_eq_true rfl, Nat.le_of_ble_eq_true rfl⟩) (wp_V hK hN hPc hDc (va_recv hK hPc (ci := 12) (q0 := 0) rfl (wG_of (by omega) rfl))) rfl rfl hl.1 rfl (lv_room (Nat.le_of_ble_eq_true rfl)) dL_law_1182 ⟨by show cells + 0 ≤ 600000; omega, by show slots + 0 ≤ 7302250; omega⟩) hS (fun q _ h => hFc q h) hFc (fun r9 u9 t9 H1 locs ht hvm hw4 hB hz1 hk1 hS => ?_)
  obtain rfl : r4 = r9 := hw4.symm
  obtain ⟨hP1, hD1⟩ := hB
  rw [ht] at hP1
  obtain ⟨hP, hD⟩ := tb_fj hP hD hk1 hFc hP1 hD1
  generalize H1 = H at hP hS ⊢
  have hP := tb_swP hP
  have hD := tb_swD hD
  have hM : IvM 0 ρ4 := by first | exact hq4 | exact hq4.1
  refine lv_pop hx hb dL_law_1185 rfl ?_
  refine lv_goto (tgt := 1635) hx hb dL_law_1186 (by decide) ?_
  exact kk τ ad adm σ2 ρ4 H locs ls _ _ hP hD hS hl hC hM (RelA.fr (a := 262144) (b := 262144) hR (wfX11_turning (m := 262144) rfl _ _ _ (Fr.rf _) _ hf2) (wfX12_turning (m := 262144) rfl _ _ (Fr.rf _) _ hf4) rfl rfl) (by omega) (by omega)

set_option maxHeartbeats 4000000 in
set_option maxRecDepth 100000 in
theorem lawc_29 {p : Program} {l : Launch} {e : Env} {s : State} {m : MethodId} {below : List Frame} {meth : Method} {c : Code} {A : Nat → Prop} {b L : Nat} {xs : Nat → Int32} {dC : Nat → ClassId} {dI : Nat → Nat → Nat} {cy : Nat → ClassId} {t : Nat} (C0 : lw_At p s m meth c b L xs) (hL : L ≤ 3072) (hAe : A = fun q : Nat => s.heap.size ≤ q) (hK : va_K (dC, dI) vwCl (tyl cy) s) (hN : NW s) (hZ : va_Z "SeatsRound" "KIND_ABOVE" "[I" (.ref t) A s s.heap) (hT : va_T .int t 7 (fun j => .int (kaI j)) A s s.heap) {i : Nat} (hi : i + 6 ≤ L) {τ : Nat} {ad adm : Nat → Nat} {σ σm : S2} {H : Heap} {locs : List Loc} {ls : Array Slot} {cells slots : Nat} (hP : va_P (dC, dI) vwCl (wG (cC cy ad τ) ad (182 + 6 * (τ + 1)) σ ++ wG (cM cy adm) adm 40 σm) H) (hD : va_D A (wG (cC cy ad τ) ad (182 + 6 * (τ + 1)) σ ++ wG (cM cy adm) adm 40 σm)) (hS : va_S A s.heap H locs) (hl : lv_has ls 4 [(3, .int (nI i)), (2, .ref (adm 0)), (1, .ref (ad 0)), (0, .ref b)]) (hC : IvC 0 τ σ) (hM : IvM 0 σm) (hR : RelL σ σm) (hc : cells ≤ 228 + i) (hs : slots ≤ 23896 + 353 * i) (kk : ∀ (τ : Nat) (ad adm : Nat → Nat) (σ σm : S2) (H : Heap) (locs : List Loc) (ls : Array Slot) (cells slots : Nat), va_P (dC, dI) vwCl (wG (cC cy ad τ) ad (182 + 6 * (τ + 1)) σ ++ wG (cM cy adm) adm 40 σm) H → va_D A (wG (cC cy ad τ) ad (182 + 6 * (τ + 1)) σ ++ wG (cM cy adm) adm 40 σm) → va_S A s.heap H locs → lv_has ls 4 [(3, .int (nI i)), (2, .ref (adm 0)), (1, .ref (ad 0)), (0, .ref b)] → IvC 0 τ σ → IvM 0 σm → RelL σ σm → cells ≤ 228 + (i + 6) → slots ≤ 23896 + 353 * (i + 6) → W p l e room_1 s m #[Value.ref b] below meth c H locs cells slots (lw_Z below #[Value.ref b] s) (F0 m 1635 ls [])) : W p l e room_1 s m #[Value.ref b] below meth c H locs cells slots (lw_Z below #[Value.ref b] s) (F0 m 1189 ls []) := by
  obtain ⟨hx, hb, hr, hml, hown, hts, hX, hbl, hlocks, hgv⟩ := id C0
  have hown : s.vm.findClass RL = some m.cls := hown
  have hts := fun w h => hts w (wsL_law_in w h)
  have hA : ∀ q : Nat, s.heap.size ≤ q → A q := by rw [hAe]; exact fun _ h => h
  have hbA : ¬ A b := by rw [hAe]; exact Nat.not_le.mpr hbl
  have h10 : τ ≤ 10 := by have h9 : 0 ≤ (σ.1 0 6).toInt ∧ (σ.1 0 6).toInt ≤ 10 := hC.1 0 6; have := hC.2.2; omega
  have hC0 := hC
  have hM0 := hM
  refine lv_aload_n hx hb dL_law_1189 rfl (lv_at hl 2 rfl) ?_
  refine lv_aload_n hx hb dL_law_1190 rfl (lv_at hl 3 rfl) ?_
  refine lv_iload_n hx hb dL_law_1191 rfl (lv_at hl 0 rfl) ?_
  refine lv_iconst (v := nI 1) hx hb dL_law_1192 (by decide) ?_
  refine lv_iadd hx hb dL_law_1193 ?_
  refine va_sld hx hb hX hbl hbA hS (sc_in (k := 1) (by omega) (by omega)) dL_law_1194 ?_
  refine lv_topi (fun a1 ea1 => ?_)
  obtain ⟨⟨r2, σ2⟩, hf2, hq2⟩ := (sX11_harm τ σ a1 hC)
  have hPc := tb_lP hP
  have hDc := tb_lD hD
  have hFc := fr_A hDc hS hA
  refine va_calli (va_runV (As := [.int a1]) (rest := []) ⟨hx, hb, hml, hown, hts⟩ (tX11_harm l dC dI cy ad τ (τ + 1) (by omega) σ a1 H.size r2 σ2 hf2) (cwV 1 hts gL_law_X11_harm rfl rfl rfl (by decide +kernel) ⟨Nat.le_of_ble_eq_true rfl, Nat.le_of_ble_eq_true rfl⟩) (wp_V hK hN hPc hDc (va_recv hK hPc (ci := 11) (q0 := 0) rfl (wG_of (by omega) (cC_0 _ _ _ _ _)))) rfl rfl hl.1 rfl (lv_room (Nat.le_of_ble_eq_true rfl)) dL_law_1195 ⟨by show cells + 0 ≤ 600000; omega, by show slots + 0 ≤ 7302250; omega⟩) hS (fun q _ h => hFc q h) hFc (fun r9 u9 t9 H1 locs ht hvm hw2 hB hz1 hk1 hS => ?_)
  obtain rfl : r2 = r9 := hw2.symm
  obtain ⟨hP1, hD1⟩ := hB
  rw [ht] at hP1
  obtain ⟨hP, hD⟩ := tb_fj hP hD hk1 hFc hP1 hD1
  generalize H1 = H at hP hS ⊢
  have hC : IvC 0 τ σ2 := by first | exact hq2 | exact hq2.1
  refine lv_pop hx hb dL_law_1198 rfl ?_
  refine lv_aload_n hx hb dL_law_1199 rfl (lv_at hl 1 rfl) ?_
  refine lv_aload_n hx hb dL_law_1200 rfl (lv_at hl 3 rfl) ?_
  refine lv_iload_n hx hb dL_law_1201 rfl (lv_at hl 0 rfl) ?_
  refine lv_iconst (v := nI 1) hx hb dL_law_1202 (by decide) ?_
  refine lv_iadd hx hb dL_law_1203 ?_
  refine va_sld hx hb hX hbl hbA hS (sc_in (k := 1) (by omega) (by omega)) dL_law_1204 ?_
  refine lv_topi (fun a3 ea3 => ?_)
  obtain rfl : a1 = a3 := ea1.trans ea3.symm
  obtain ⟨⟨r4, ρ4⟩, hf4, hq4⟩ := (sX12_harm σm a1 hM rfl)
  have hP := tb_swP hP
  have hD := tb_swD hD
  have hPc := tb_lP hP
  have hDc := tb_lD hD
  have hFc := fr_A hDc hS hA
  refine va_calli (va_runV (As := [.int a1]) (rest := []) ⟨hx, hb, hml, hown, hts⟩ (tX12_harm l dC dI cy adm σm a1 H.size r4 ρ4 hf4) (cwV 1 hts gL_law_X12_harm rfl rfl rfl (by decide +kernel) ⟨Nat.le_of_ble_eq_true rfl, Nat.le_of_ble_eq_true rfl⟩) (wp_V hK hN hPc hDc (va_recv hK hPc (ci := 12) (q0 := 0) rfl (wG_of (by omega) rfl))) rfl rfl hl.1 rfl (lv_room (Nat.le_of_ble_eq_true rfl)) dL_law_1205 ⟨by show cells + 0 ≤ 600000; omega, by show slots + 0 ≤ 7302250; omega⟩) hS (fun q _ h => hFc q h) hFc (fun r9 u9 t9 H1 locs ht hvm hw4 hB hz1 hk1 hS => ?_)
  obtain rfl : r4 = r9 := hw4.symm
  obtain ⟨hP1, hD1⟩ := hB
  rw [ht] at hP1
  obtain ⟨hP, hD⟩ := tb_fj hP hD hk1 hFc hP1 hD1
  generalize H1 = H at hP hS ⊢
  have hP := tb_swP hP
  have hD := tb_swD hD
  have hM : IvM 0 ρ4 := by first | exact hq4 | exact hq4.1
  refine lv_pop hx hb dL_law_1208 rfl ?_
  refine lv_goto (tgt := 1635) hx hb dL_law_1209 (by decide) ?_
  exact kk τ ad adm σ2 ρ4 H locs ls _ _ hP hD hS hl hC hM (RelA.fr (a := 9176065) (b := 786945) hR (wfX11_harm (m := 9176065) rfl _ _ _ (Fr.rf _) _ hf2) (wfX12_harm (m := 786945) rfl _ _ (Fr.rf _) _ hf4) rfl rfl) (by omega) (by omega)

set_option maxHeartbeats 4000000 in
set_option maxRecDepth 100000 in
theorem lawc_30 {p : Program} {l : Launch} {e : Env} {s : State} {m : MethodId} {below : List Frame} {meth : Method} {c : Code} {A : Nat → Prop} {b L : Nat} {xs : Nat → Int32} {dC : Nat → ClassId} {dI : Nat → Nat → Nat} {cy : Nat → ClassId} {t : Nat} (C0 : lw_At p s m meth c b L xs) (hL : L ≤ 3072) (hAe : A = fun q : Nat => s.heap.size ≤ q) (hK : va_K (dC, dI) vwCl (tyl cy) s) (hN : NW s) (hZ : va_Z "SeatsRound" "KIND_ABOVE" "[I" (.ref t) A s s.heap) (hT : va_T .int t 7 (fun j => .int (kaI j)) A s s.heap) {i : Nat} (hi : i + 6 ≤ L) {τ : Nat} {ad adm : Nat → Nat} {σ σm : S2} {H : Heap} {locs : List Loc} {ls : Array Slot} {cells slots : Nat} (hP : va_P (dC, dI) vwCl (wG (cC cy ad τ) ad (182 + 6 * (τ + 1)) σ ++ wG (cM cy adm) adm 40 σm) H) (hD : va_D A (wG (cC cy ad τ) ad (182 + 6 * (τ + 1)) σ ++ wG (cM cy adm) adm 40 σm)) (hS : va_S A s.heap H locs) (hl : lv_has ls 4 [(3, .int (nI i)), (2, .ref (adm 0)), (1, .ref (ad 0)), (0, .ref b)]) (hC : IvC 0 τ σ) (hM : IvM 0 σm) (hR : RelL σ σm) (hc : cells ≤ 228 + i) (hs : slots ≤ 23896 + 353 * i) (kk : ∀ (τ : Nat) (ad adm : Nat → Nat) (σ σm : S2) (H : Heap) (locs : List Loc) (ls : Array Slot) (cells slots : Nat), va_P (dC, dI) vwCl (wG (cC cy ad τ) ad (182 + 6 * (τ + 1)) σ ++ wG (cM cy adm) adm 40 σm) H → va_D A (wG (cC cy ad τ) ad (182 + 6 * (τ + 1)) σ ++ wG (cM cy adm) adm 40 σm) → va_S A s.heap H locs → lv_has ls 4 [(3, .int (nI i)), (2, .ref (adm 0)), (1, .ref (ad 0)), (0, .ref b)] → IvC 0 τ σ → IvM 0 σm → RelL σ σm → cells ≤ 228 + (i + 6) → slots ≤ 23896 + 353 * (i + 6) → W p l e room_1 s m #[Value.ref b] below meth c H locs cells slots (lw_Z below #[Value.ref b] s) (F0 m 1635 ls [])) : W p l e room_1 s m #[Value.ref b] below meth c H locs cells slots (lw_Z below #[Value.ref b] s) (F0 m 1212 ls []) := by
  obtain ⟨hx, hb, hr, hml, hown, hts, hX, hbl, hlocks, hgv⟩ := id C0
  have hown : s.vm.findClass RL = some m.cls := hown
  have hts := fun w h => hts w (wsL_law_in w h)
  have hA : ∀ q : Nat, s.heap.size ≤ q → A q := by rw [hAe]; exact fun _ h => h
  have hbA : ¬ A b := by rw [hAe]; exact Nat.not_le.mpr hbl
  have h10 : τ ≤ 10 := by have h9 : 0 ≤ (σ.1 0 6).toInt ∧ (σ.1 0 6).toInt ≤ 10 := hC.1 0 6; have := hC.2.2; omega
  have hC0 := hC
  have hM0 := hM
  refine lv_aload_n hx hb dL_law_1212 rfl (lv_at hl 2 rfl) ?_
  obtain ⟨r1, hf1, hq1⟩ := (sX11_harmed τ σ hC)
  have hPc := tb_lP hP
  have hDc := tb_lD hD
  have hFc := fr_A hDc hS hA
  refine va_calli (va_runV (As := []) (rest := []) ⟨hx, hb, hml, hown, hts⟩ (tX11_harmed l dC dI cy ad τ (τ + 1) (by omega) σ H.size r1 hf1) (cwV 0 hts gL_law_X11_harmed rfl rfl rfl (by decide +kernel) ⟨Nat.le_of_ble_eq_true rfl, Nat.le_of_ble_eq_true rfl⟩) (wp_V hK hN hPc hDc (va_recv hK hPc (ci := 11) (q0 := 0) rfl (wG_of (by omega) (cC_0 _ _ _ _ _)))) rfl rfl hl.1 rfl (lv_room (Nat.le_of_ble_eq_true rfl)) dL_law_1213 ⟨by show cells + 0 ≤ 600000; omega, by show slots + 0 ≤ 7302250; omega⟩) hS (fun q _ h => hFc q h) hFc (fun r9 u9 t9 H1 locs ht hvm hw1 hB hz1 hk1 hS => ?_)
  obtain rfl : r1 = r9 := hw1.symm
  obtain ⟨hP1, hD1⟩ := hB
  rw [ht] at hP1
  obtain ⟨hP, hD⟩ := tb_fj hP hD hk1 hFc hP1 hD1
  generalize H1 = H at hP hS ⊢
  refine lv_pop hx hb dL_law_1216 rfl ?_
  refine lv_aload_n hx hb dL_law_1217 rfl (lv_at hl 1 rfl) ?_
  obtain ⟨r2, hf2, hq2⟩ := (sX12_harmed σm hM)
  have hP := tb_swP hP
  have hD := tb_swD hD
  have hPc := tb_lP hP
  have hDc := tb_lD hD
  have hFc := fr_A hDc hS hA
  refine va_calli (va_runV (As := []) (rest := []) ⟨hx, hb, hml, hown, hts⟩ (tX12_harmed l dC dI cy adm σm H.size r2 hf2) (cwV 0 hts gL_law_X12_harmed rfl rfl rfl (by decide +kernel) ⟨Nat.le_of_ble_eq_true rfl, Nat.le_of_ble_eq_true rfl⟩) (wp_V hK hN hPc hDc (va_recv hK hPc (ci := 12) (q0 := 0) rfl (wG_of (by omega) rfl))) rfl rfl hl.1 rfl (lv_room (Nat.le_of_ble_eq_true rfl)) dL_law_1218 ⟨by show cells + 0 ≤ 600000; omega, by show slots + 0 ≤ 7302250; omega⟩) hS (fun q _ h => hFc q h) hFc (fun r9 u9 t9 H1 locs ht hvm hw2 hB hz1 hk1 hS => ?_)
  obtain rfl : r2 = r9 := hw2.symm
  obtain ⟨hP1, hD1⟩ := hB
  rw [ht] at hP1
  obtain ⟨hP, hD⟩ := tb_fj hP hD hk1 hFc hP1 hD1
  generalize H1 = H at hP hS ⊢
  have hP := tb_swP hP
  have hD := tb_swD hD
  refine lv_pop hx hb dL_law_1221 rfl ?_
  refine lv_goto (tgt := 1635) hx hb dL_law_1222 (by decide) ?_
  exact kk τ ad adm σ σm H locs ls _ _ hP hD hS hl hC hM (RelA.fr (a := 0) (b := 0) hR (Fr.rf _) (Fr.rf _) rfl rfl) (by omega) (by omega)

set_option maxHeartbeats 4000000 in
set_option maxRecDepth 100000 in
theorem lawc_31 {p : Program} {l : Launch} {e : Env} {s : State} {m : MethodId} {below : List Frame} {meth : Method} {c : Code} {A : Nat → Prop} {b L : Nat} {xs : Nat → Int32} {dC : Nat → ClassId} {dI : Nat → Nat → Nat} {cy : Nat → ClassId} {t : Nat} (C0 : lw_At p s m meth c b L xs) (hL : L ≤ 3072) (hAe : A = fun q : Nat => s.heap.size ≤ q) (hK : va_K (dC, dI) vwCl (tyl cy) s) (hN : NW s) (hZ : va_Z "SeatsRound" "KIND_ABOVE" "[I" (.ref t) A s s.heap) (hT : va_T .int t 7 (fun j => .int (kaI j)) A s s.heap) {i : Nat} (hi : i + 6 ≤ L) {τ : Nat} {ad adm : Nat → Nat} {σ σm : S2} {H : Heap} {locs : List Loc} {ls : Array Slot} {cells slots : Nat} (hP : va_P (dC, dI) vwCl (wG (cC cy ad τ) ad (182 + 6 * (τ + 1)) σ ++ wG (cM cy adm) adm 40 σm) H) (hD : va_D A (wG (cC cy ad τ) ad (182 + 6 * (τ + 1)) σ ++ wG (cM cy adm) adm 40 σm)) (hS : va_S A s.heap H locs) (hl : lv_has ls 4 [(3, .int (nI i)), (2, .ref (adm 0)), (1, .ref (ad 0)), (0, .ref b)]) (hC : IvC 0 τ σ) (hM : IvM 0 σm) (hR : RelL σ σm) (hc : cells ≤ 228 + i) (hs : slots ≤ 23896 + 353 * i) (kk : ∀ (τ : Nat) (ad adm : Nat → Nat) (σ σm : S2) (H : Heap) (locs : List Loc) (ls : Array Slot) (cells slots : Nat), va_P (dC, dI) vwCl (wG (cC cy ad τ) ad (182 + 6 * (τ + 1)) σ ++ wG (cM cy adm) adm 40 σm) H → va_D A (wG (cC cy ad τ) ad (182 + 6 * (τ + 1)) σ ++ wG (cM cy adm) adm 40 σm) → va_S A s.heap H locs → lv_has ls 4 [(3, .int (nI i)), (2, .ref (adm 0)), (1, .ref (ad 0)), (0, .ref b)] → IvC 0 τ σ → IvM 0 σm → RelL σ σm → cells ≤ 228 + (i + 6) → slots ≤ 23896 + 353 * (i + 6) → W p l e room_1 s m #[Value.ref b] below meth c H locs cells slots (lw_Z below #[Value.ref b] s) (F0 m 1635 ls [])) : W p l e room_1 s m #[Value.ref b] below meth c H locs cells slots (lw_Z below #[Value.ref b] s) (F0 m 1225 ls []) := by
  obtain ⟨hx, hb, hr, hml, hown, hts, hX, hbl, hlocks, hgv⟩ := id C0
  have hown : s.vm.findClass RL = some m.cls := hown
  have hts := fun w h => hts w (wsL_law_in w h)
  have hA : ∀ q : Nat, s.heap.size ≤ q → A q := by rw [hAe]; exact fun _ h => h
  have hbA : ¬ A b := by rw [hAe]; exact Nat.not_le.mpr hbl
  have h10 : τ ≤ 10 := by have h9 : 0 ≤ (σ.1 0 6).toInt ∧ (σ.1 0 6).toInt ≤ 10 := hC.1 0 6; have := hC.2.2; omega
  have hC0 := hC
  have hM0 := hM
  refine lv_aload_n hx hb dL_law_1225 rfl (lv_at hl 2 rfl) ?_
  refine lv_aload_n hx hb dL_law_1226 rfl (lv_at hl 3 rfl) ?_
  refine lv_iload_n hx hb dL_law_1227 rfl (lv_at hl 0 rfl) ?_
  refine lv_iconst (v := nI 1) hx hb dL_law_1228 (by decide) ?_
  refine lv_iadd hx hb dL_law_1229 ?_
  refine va_sld hx hb hX hbl hbA hS (sc_in (k := 1) (by omega) (by omega)) dL_law_1230 ?_
  refine lv_topi (fun a1 ea1 => ?_)
  refine lv_aload_n hx hb dL_law_1231 rfl (lv_at hl 3 rfl) ?_
  refine lv_iload_n hx hb dL_law_1232 rfl (lv_at hl 0 rfl) ?_
  refine lv_iconst (v := nI 2) hx hb dL_law_1233 (by decide) ?_
  refine lv_iadd hx hb dL_law_1234 ?_
  refine va_sld hx hb hX hbl hbA hS (sc_in (k := 2) (by omega) (by omega)) dL_law_1235 ?_
  refine lv_topi (fun a2 ea2 => ?_)
  refine lv_aload_n hx hb dL_law_1236 rfl (lv_at hl 3 rfl) ?_
  refine lv_iload_n hx hb dL_law_1237 rfl (lv_at hl 0 rfl) ?_
  refine lv_iconst (v := nI 3) hx hb dL_law_1238 (by decide) ?_
  refine lv_iadd hx hb dL_law_1239 ?_
  refine va_sld hx hb hX hbl hbA hS (sc_in (k := 3) (by omega) (by omega)) dL_law_1240 ?_
  refine lv_topi (fun a3 ea3 => ?_)
  obtain ⟨⟨r4, σ4⟩, hf4, hq4⟩ := (sX11_act τ σ a1 a2 a3 hC)
  have hPc := tb_lP hP
  have hDc := tb_lD hD
  have hFc := fr_A hDc hS hA
  refine va_calli (va_runV (As := [.int a1, .int a2, .int a3]) (rest := []) ⟨hx, hb, hml, hown, hts⟩ (tX11_act l dC dI cy ad τ (τ + 1) (by omega) σ a1 a2 a3 H.size r4 σ4 hf4) (cwV 3 hts gL_law_X11_act rfl rfl rfl (by decide +kernel) ⟨Nat.le_of_ble_eq_true rfl, Nat.le_of_ble_eq_true rfl⟩) (wp_V hK hN hPc hDc (va_recv hK hPc (ci := 11) (q0 := 0) rfl (wG_of (by omega) (cC_0 _ _ _ _ _)))) rfl rfl hl.1 rfl (lv_room (Nat.le_of_ble_eq_true rfl)) dL_law_1241 ⟨by show cells + 0 ≤ 600000; omega, by show slots + 0 ≤ 7302250; omega⟩) hS (fun q _ h => hFc q h) hFc (fun r9 u9 t9 H1 locs ht hvm hw4 hB hz1 hk1 hS => ?_)
  obtain rfl : r4 = r9 := hw4.symm
  obtain ⟨hP1, hD1⟩ := hB
  rw [ht] at hP1
  obtain ⟨hP, hD⟩ := tb_fj hP hD hk1 hFc hP1 hD1
  generalize H1 = H at hP hS ⊢
  have hC : IvC 0 τ σ4 := by first | exact hq4 | exact hq4.1
  refine lv_pop hx hb dL_law_1244 rfl ?_
  refine lv_aload_n hx hb dL_law_1245 rfl (lv_at hl 1 rfl) ?_
  refine lv_aload_n hx hb dL_law_1246 rfl (lv_at hl 3 rfl) ?_
  refine lv_iload_n hx hb dL_law_1247 rfl (lv_at hl 0 rfl) ?_
  refine lv_iconst (v := nI 1) hx hb dL_law_1248 (by decide) ?_
  refine lv_iadd hx hb dL_law_1249 ?_
  refine va_sld hx hb hX hbl hbA hS (sc_in (k := 1) (by omega) (by omega)) dL_law_1250 ?_
  refine lv_topi (fun a5 ea5 => ?_)
  obtain rfl : a1 = a5 := ea1.trans ea5.symm
  refine lv_aload_n hx hb dL_law_1251 rfl (lv_at hl 3 rfl) ?_
  refine lv_iload_n hx hb dL_law_1252 rfl (lv_at hl 0 rfl) ?_
  refine lv_iconst (v := nI 2) hx hb dL_law_1253 (by decide) ?_
  refine lv_iadd hx hb dL_law_1254 ?_
  refine va_sld hx hb hX hbl hbA hS (sc_in (k := 2) (by omega) (by omega)) dL_law_1255 ?_
  refine lv_topi (fun a6 ea6 => ?_)
  obtain rfl : a2 = a6 := ea2.trans ea6.symm
  refine lv_aload_n hx hb dL_law_1256 rfl (lv_at hl 3 rfl) ?_
  refine lv_iload_n hx hb dL_law_1257 rfl (lv_at hl 0 rfl) ?_
  refine lv_iconst (v := nI 3) hx hb dL_law_1258 (by decide) ?_
  refine lv_iadd hx hb dL_law_1259 ?_
  refine va_sld hx hb hX hbl hbA hS (sc_in (k := 3) (by omega) (by omega)) dL_law_1260 ?_
  refine lv_topi (fun a7 ea7 => ?_)
  obtain rfl : a3 = a7 := ea3.trans ea7.symm
  obtain ⟨⟨r8, ρ8⟩, hf8, hq8⟩ := (sX12_act σm a1 a2 a3 hM)
  have hP := tb_swP hP
  have hD := tb_swD hD
  have hPc := tb_lP hP
  have hDc := tb_lD hD
  have hFc := fr_A hDc hS hA
  refine va_calli (va_runV (As := [.int a1, .int a2, .int a3]) (rest := []) ⟨hx, hb, hml, hown, hts⟩ (tX12_act l dC dI cy adm σm a1 a2 a3 H.size r8 ρ8 hf8) (cwV 3 hts gL_law_X12_act rfl rfl rfl (by decide +kernel) ⟨Nat.le_of_ble_eq_true rfl, Nat.le_of_ble_eq_true rfl⟩) (wp_V hK hN hPc hDc (va_recv hK hPc (ci := 12) (q0 := 0) rfl (wG_of (by omega) rfl))) rfl rfl hl.1 rfl (lv_room (Nat.le_of_ble_eq_true rfl)) dL_law_1261 ⟨by show cells + 0 ≤ 600000; omega, by show slots + 0 ≤ 7302250; omega⟩) hS (fun q _ h => hFc q h) hFc (fun r9 u9 t9 H1 locs ht hvm hw8 hB hz1 hk1 hS => ?_)
  obtain rfl : r8 = r9 := hw8.symm
  obtain ⟨hP1, hD1⟩ := hB
  rw [ht] at hP1
  obtain ⟨hP, hD⟩ := tb_fj hP hD hk1 hFc hP1 hD1
  generalize H1 = H at hP hS ⊢
  have hP := tb_swP hP
  have hD := tb_swD hD
  have hM : IvM 0 ρ8 := by first | exact hq8 | exact hq8.1
  refine lv_pop hx hb dL_law_1264 rfl ?_
  refine lv_goto (tgt := 1635) hx hb dL_law_1265 (by decide) ?_
  exact kk τ ad adm σ4 ρ8 H locs ls _ _ hP hD hS hl hC hM (st_act hR hM0 hf4 hf8).2 (by omega) (by omega)

set_option maxHeartbeats 4000000 in
set_option maxRecDepth 100000 in
theorem lawc_32 {p : Program} {l : Launch} {e : Env} {s : State} {m : MethodId} {below : List Frame} {meth : Method} {c : Code} {A : Nat → Prop} {b L : Nat} {xs : Nat → Int32} {dC : Nat → ClassId} {dI : Nat → Nat → Nat} {cy : Nat → ClassId} {t : Nat} (C0 : lw_At p s m meth c b L xs) (hL : L ≤ 3072) (hAe : A = fun q : Nat => s.heap.size ≤ q) (hK : va_K (dC, dI) vwCl (tyl cy) s) (hN : NW s) (hZ : va_Z "SeatsRound" "KIND_ABOVE" "[I" (.ref t) A s s.heap) (hT : va_T .int t 7 (fun j => .int (kaI j)) A s s.heap) {i : Nat} (hi : i + 6 ≤ L) {τ : Nat} {ad adm : Nat → Nat} {σ σm : S2} {H : Heap} {locs : List Loc} {ls : Array Slot} {cells slots : Nat} (hP : va_P (dC, dI) vwCl (wG (cC cy ad τ) ad (182 + 6 * (τ + 1)) σ ++ wG (cM cy adm) adm 40 σm) H) (hD : va_D A (wG (cC cy ad τ) ad (182 + 6 * (τ + 1)) σ ++ wG (cM cy adm) adm 40 σm)) (hS : va_S A s.heap H locs) (hl : lv_has ls 4 [(3, .int (nI i)), (2, .ref (adm 0)), (1, .ref (ad 0)), (0, .ref b)]) (hC : IvC 0 τ σ) (hM : IvM 0 σm) (hR : RelL σ σm) (hc : cells ≤ 228 + i) (hs : slots ≤ 23896 + 353 * i) (kk : ∀ (τ : Nat) (ad adm : Nat → Nat) (σ σm : S2) (H : Heap) (locs : List Loc) (ls : Array Slot) (cells slots : Nat), va_P (dC, dI) vwCl (wG (cC cy ad τ) ad (182 + 6 * (τ + 1)) σ ++ wG (cM cy adm) adm 40 σm) H → va_D A (wG (cC cy ad τ) ad (182 + 6 * (τ + 1)) σ ++ wG (cM cy adm) adm 40 σm) → va_S A s.heap H locs → lv_has ls 4 [(3, .int (nI i)), (2, .ref (adm 0)), (1, .ref (ad 0)), (0, .ref b)] → IvC 0 τ σ → IvM 0 σm → RelL σ σm → cells ≤ 228 + (i + 6) → slots ≤ 23896 + 353 * (i + 6) → W p l e room_1 s m #[Value.ref b] below meth c H locs cells slots (lw_Z below #[Value.ref b] s) (F0 m 1635 ls [])) : W p l e room_1 s m #[Value.ref b] below meth c H locs cells slots (lw_Z below #[Value.ref b] s) (F0 m 1268 ls []) := by
  obtain ⟨hx, hb, hr, hml, hown, hts, hX, hbl, hlocks, hgv⟩ := id C0
  have hown : s.vm.findClass RL = some m.cls := hown
  have hts := fun w h => hts w (wsL_law_in w h)
  have hA : ∀ q : Nat, s.heap.size ≤ q → A q := by rw [hAe]; exact fun _ h => h
  have hbA : ¬ A b := by rw [hAe]; exact Nat.not_le.mpr hbl
  have h10 : τ ≤ 10 := by have h9 : 0 ≤ (σ.1 0 6).toInt ∧ (σ.1 0 6).toInt ≤ 10 := hC.1 0 6; have := hC.2.2; omega
  have hC0 := hC
  have hM0 := hM
  refine lv_aload_n hx hb dL_law_1268 rfl (lv_at hl 2 rfl) ?_
  refine lv_aload_n hx hb dL_law_1269 rfl (lv_at hl 3 rfl) ?_
  refine lv_iload_n hx hb dL_law_1270 rfl (lv_at hl 0 rfl) ?_
  refine lv_iconst (v := nI 1) hx hb dL_law_1271 (by decide) ?_
  refine lv_iadd hx hb dL_law_1272 ?_
  refine va_sld hx hb hX hbl hbA hS (sc_in (k := 1) (by omega) (by omega)) dL_law_1273 ?_
  refine lv_topi (fun a1 ea1 => ?_)
  obtain ⟨r2, hf2, hq2⟩ := (sX11_trace τ σ a1 hC)
  have hPc := tb_lP hP
  have hDc := tb_lD hD
  have hFc := fr_A hDc hS hA
  refine va_calli (va_runV (As := [.int a1]) (rest := []) ⟨hx, hb, hml, hown, hts⟩ (tX11_trace l dC dI cy ad τ (τ + 1) (by omega) σ a1 H.size r2 hf2) (cwV 1 hts gL_law_X11_trace rfl rfl rfl (by decide +kernel) ⟨Nat.le_of_ble_eq_true rfl, Nat.le_of_ble_eq_true rfl⟩) (wp_V hK hN hPc hDc (va_recv hK hPc (ci := 11) (q0 := 0) rfl (wG_of (by omega) (cC_0 _ _ _ _ _)))) rfl rfl hl.1 rfl (lv_room (Nat.le_of_ble_eq_true rfl)) dL_law_1274 ⟨by show cells + 0 ≤ 600000; omega, by show slots + 0 ≤ 7302250; omega⟩) hS (fun q _ h => hFc q h) hFc (fun r9 u9 t9 H1 locs ht hvm hw2 hB hz1 hk1 hS => ?_)
  obtain rfl : r2 = r9 := hw2.symm
  obtain ⟨hP1, hD1⟩ := hB
  rw [ht] at hP1
  obtain ⟨hP, hD⟩ := tb_fj hP hD hk1 hFc hP1 hD1
  generalize H1 = H at hP hS ⊢
  refine lv_pop hx hb dL_law_1277 rfl ?_
  refine lv_aload_n hx hb dL_law_1278 rfl (lv_at hl 1 rfl) ?_
  refine lv_aload_n hx hb dL_law_1279 rfl (lv_at hl 3 rfl) ?_
  refine lv_iload_n hx hb dL_law_1280 rfl (lv_at hl 0 rfl) ?_
  refine lv_iconst (v := nI 1) hx hb dL_law_1281 (by decide) ?_
  refine lv_iadd hx hb dL_law_1282 ?_
  refine va_sld hx hb hX hbl hbA hS (sc_in (k := 1) (by omega) (by omega)) dL_law_1283 ?_
  refine lv_topi (fun a3 ea3 => ?_)
  obtain rfl : a1 = a3 := ea1.trans ea3.symm
  obtain ⟨r4, hf4, hq4⟩ := (sX12_trace σm a1 hM)
  have hP := tb_swP hP
  have hD := tb_swD hD
  have hPc := tb_lP hP
  have hDc := tb_lD hD
  have hFc := fr_A hDc hS hA
  refine va_calli (va_runV (As := [.int a1]) (rest := []) ⟨hx, hb, hml, hown, hts⟩ (tX12_trace l dC dI cy adm σm a1 H.size r4 hf4) (cwV 1 hts gL_law_X12_trace rfl rfl rfl (by decide +kernel) ⟨Nat.le_of_ble_eq_true rfl, Nat.le_of_ble_eq_true rfl⟩) (wp_V hK hN hPc hDc (va_recv hK hPc (ci := 12) (q0 := 0) rfl (wG_of (by omega) rfl))) rfl rfl hl.1 rfl (lv_room (Nat.le_of_ble_eq_true rfl)) dL_law_1284 ⟨by show cells + 0 ≤ 600000; omega, by show slots + 0 ≤ 7302250; omega⟩) hS (fun q _ h => hFc q h) hFc (fun r9 u9 t9 H1 locs ht hvm hw4 hB hz1 hk1 hS => ?_)
  obtain rfl : r4 = r9 := hw4.symm
  obtain ⟨hP1, hD1⟩ := hB
  rw [ht] at hP1
  obtain ⟨hP, hD⟩ := tb_fj hP hD hk1 hFc hP1 hD1
  generalize H1 = H at hP hS ⊢
  have hP := tb_swP hP
  have hD := tb_swD hD
  refine lv_pop hx hb dL_law_1287 rfl ?_
  refine lv_goto (tgt := 1635) hx hb dL_law_1288 (by decide) ?_
  exact kk τ ad adm σ σm H locs ls _ _ hP hD hS hl hC hM (RelA.fr (a := 0) (b := 0) hR (Fr.rf _) (Fr.rf _) rfl rfl) (by omega) (by omega)

set_option maxHeartbeats 4000000 in
set_option maxRecDepth 100000 in
theorem lawc_33 {p : Program} {l : Launch} {e : Env} {s : State} {m : MethodId} {below : List Frame} {meth : Method} {c : Code} {A : Nat → Prop} {b L : Nat} {xs : Nat → Int32} {dC : Nat → ClassId} {dI : Nat → Nat → Nat} {cy : Nat → ClassId} {t : Nat} (C0 : lw_At p s m meth c b L xs) (hL : L ≤ 3072) (hAe : A = fun q : Nat => s.heap.size ≤ q) (hK : va_K (dC, dI) vwCl (tyl cy) s) (hN : NW s) (hZ : va_Z "SeatsRound" "KIND_ABOVE" "[I" (.ref t) A s s.heap) (hT : va_T .int t 7 (fun j => .int (kaI j)) A s s.heap) {i : Nat} (hi : i + 6 ≤ L) {τ : Nat} {ad adm : Nat → Nat} {σ σm : S2} {H : Heap} {locs : List Loc} {ls : Array Slot} {cells slots : Nat} (hP : va_P (dC, dI) vwCl (wG (cC cy ad τ) ad (182 + 6 * (τ + 1)) σ ++ wG (cM cy adm) adm 40 σm) H) (hD : va_D A (wG (cC cy ad τ) ad (182 + 6 * (τ + 1)) σ ++ wG (cM cy adm) adm 40 σm)) (hS : va_S A s.heap H locs) (hl : lv_has ls 4 [(3, .int (nI i)), (2, .ref (adm 0)), (1, .ref (ad 0)), (0, .ref b)]) (hC : IvC 0 τ σ) (hM : IvM 0 σm) (hR : RelL σ σm) (hc : cells ≤ 228 + i) (hs : slots ≤ 23896 + 353 * i) (kk : ∀ (τ : Nat) (ad adm : Nat → Nat) (σ σm : S2) (H : Heap) (locs : List Loc) (ls : Array Slot) (cells slots : Nat), va_P (dC, dI) vwCl (wG (cC cy ad τ) ad (182 + 6 * (τ + 1)) σ ++ wG (cM cy adm) adm 40 σm) H → va_D A (wG (cC cy ad τ) ad (182 + 6 * (τ + 1)) σ ++ wG (cM cy adm) adm 40 σm) → va_S A s.heap H locs → lv_has ls 4 [(3, .int (nI i)), (2, .ref (adm 0)), (1, .ref (ad 0)), (0, .ref b)] → IvC 0 τ σ → IvM 0 σm → RelL σ σm → cells ≤ 228 + (i + 6) → slots ≤ 23896 + 353 * (i + 6) → W p l e room_1 s m #[Value.ref b] below meth c H locs cells slots (lw_Z below #[Value.ref b] s) (F0 m 1635 ls [])) : W p l e room_1 s m #[Value.ref b] below meth c H locs cells slots (lw_Z below #[Value.ref b] s) (F0 m 1291 ls []) := by
  obtain ⟨hx, hb, hr, hml, hown, hts, hX, hbl, hlocks, hgv⟩ := id C0
  have hown : s.vm.findClass RL = some m.cls := hown
  have hts := fun w h => hts w (wsL_law_in w h)
  have hA : ∀ q : Nat, s.heap.size ≤ q → A q := by rw [hAe]; exact fun _ h => h
  have hbA : ¬ A b := by rw [hAe]; exact Nat.not_le.mpr hbl
  have h10 : τ ≤ 10 := by have h9 : 0 ≤ (σ.1 0 6).toInt ∧ (σ.1 0 6).toInt ≤ 10 := hC.1 0 6; have := hC.2.2; omega
  have hC0 := hC
  have hM0 := hM
  refine lv_aload_n hx hb dL_law_1291 rfl (lv_at hl 2 rfl) ?_
  refine lv_aload_n hx hb dL_law_1292 rfl (lv_at hl 3 rfl) ?_
  refine lv_iload_n hx hb dL_law_1293 rfl (lv_at hl 0 rfl) ?_
  refine lv_iconst (v := nI 1) hx hb dL_law_1294 (by decide) ?_
  refine lv_iadd hx hb dL_law_1295 ?_
  refine va_sld hx hb hX hbl hbA hS (sc_in (k := 1) (by omega) (by omega)) dL_law_1296 ?_
  refine lv_topi (fun a1 ea1 => ?_)
  refine lv_aload_n hx hb dL_law_1297 rfl (lv_at hl 3 rfl) ?_
  refine lv_iload_n hx hb dL_law_1298 rfl (lv_at hl 0 rfl) ?_
  refine lv_iconst (v := nI 2) hx hb dL_law_1299 (by decide) ?_
  refine lv_iadd hx hb dL_law_1300 ?_
  refine va_sld hx hb hX hbl hbA hS (sc_in (k := 2) (by omega) (by omega)) dL_law_1301 ?_
  refine lv_topi (fun a2 ea2 => ?_)
  obtain ⟨⟨r3, σ3⟩, hf3, hq3⟩ := (sX11_keep τ σ a1 a2 hC)
  have hPc := tb_lP hP
  have hDc := tb_lD hD
  have hFc := fr_A hDc hS hA
  refine va_calli (va_runV (As := [.int a1, .int a2]) (rest := []) ⟨hx, hb, hml, hown, hts⟩ (tX11_keep l dC dI cy ad τ (τ + 1) (by omega) σ a1 a2 H.size r3 σ3 hf3) (cwV 2 hts gL_law_X11_keep rfl rfl rfl (by decide +kernel) ⟨Nat.le_of_ble_eq_true rfl, Nat.le_of_ble_eq_true rfl⟩) (wp_V hK hN hPc hDc (va_recv hK hPc (ci := 11) (q0 := 0) rfl (wG_of (by omega) (cC_0 _ _ _ _ _)))) rfl rfl hl.1 rfl (lv_room (Nat.le_of_ble_eq_true rfl)) dL_law_1302 ⟨by show cells + 0 ≤ 600000; omega, by show slots + 0 ≤ 7302250; omega⟩) hS (fun q _ h => hFc q h) hFc (fun r9 u9 t9 H1 locs ht hvm hw3 hB hz1 hk1 hS => ?_)
  obtain rfl : r3 = r9 := hw3.symm
  obtain ⟨hP1, hD1⟩ := hB
  rw [ht] at hP1
  obtain ⟨hP, hD⟩ := tb_fj hP hD hk1 hFc hP1 hD1
  generalize H1 = H at hP hS ⊢
  have hC : IvC 0 τ σ3 := by first | exact hq3 | exact hq3.1
  refine lv_pop hx hb dL_law_1305 rfl ?_
  refine lv_aload_n hx hb dL_law_1306 rfl (lv_at hl 1 rfl) ?_
  refine lv_aload_n hx hb dL_law_1307 rfl (lv_at hl 3 rfl) ?_
  refine lv_iload_n hx hb dL_law_1308 rfl (lv_at hl 0 rfl) ?_
  refine lv_iconst (v := nI 1) hx hb dL_law_1309 (by decide) ?_
  refine lv_iadd hx hb dL_law_1310 ?_
  refine va_sld hx hb hX hbl hbA hS (sc_in (k := 1) (by omega) (by omega)) dL_law_1311 ?_
  refine lv_topi (fun a4 ea4 => ?_)
  obtain rfl : a1 = a4 := ea1.trans ea4.symm
  refine lv_aload_n hx hb dL_law_1312 rfl (lv_at hl 3 rfl) ?_
  refine lv_iload_n hx hb dL_law_1313 rfl (lv_at hl 0 rfl) ?_
  refine lv_iconst (v := nI 2) hx hb dL_law_1314 (by decide) ?_
  refine lv_iadd hx hb dL_law_1315 ?_
  refine va_sld hx hb hX hbl hbA hS (sc_in (k := 2) (by omega) (by omega)) dL_law_1316 ?_
  refine lv_topi (fun a5 ea5 => ?_)
  obtain rfl : a2 = a5 := ea2.trans ea5.symm
  obtain ⟨⟨r6, ρ6⟩, hf6, hq6⟩ := (sX12_keep σm a1 a2 hM)
  have hP := tb_swP hP
  have hD := tb_swD hD
  have hPc := tb_lP hP
  have hDc := tb_lD hD
  have hFc := fr_A hDc hS hA
  refine va_calli (va_runV (As := [.int a1, .int a2]) (rest := []) ⟨hx, hb, hml, hown, hts⟩ (tX12_keep l dC dI cy adm σm a1 a2 H.size r6 ρ6 hf6) (cwV 2 hts gL_law_X12_keep rfl rfl rfl (by decide +kernel) ⟨Nat.le_of_ble_eq_true rfl, Nat.le_of_ble_eq_true rfl⟩) (wp_V hK hN hPc hDc (va_recv hK hPc (ci := 12) (q0 := 0) rfl (wG_of (by omega) rfl))) rfl rfl hl.1 rfl (lv_room (Nat.le_of_ble_eq_true rfl)) dL_law_1317 ⟨by show cells + 0 ≤ 600000; omega, by show slots + 0 ≤ 7302250; omega⟩) hS (fun q _ h => hFc q h) hFc (fun r9 u9 t9 H1 locs ht hvm hw6 hB hz1 hk1 hS => ?_)
  obtain rfl : r6 = r9 := hw6.symm
  obtain ⟨hP1, hD1⟩ := hB
  rw [ht] at hP1
  obtain ⟨hP, hD⟩ := tb_fj hP hD hk1 hFc hP1 hD1
  generalize H1 = H at hP hS ⊢
  have hP := tb_swP hP
  have hD := tb_swD hD
  have hM : IvM 0 ρ6 := by first | exact hq6 | exact hq6.1
  refine lv_pop hx hb dL_law_1320 rfl ?_
  refine lv_goto (tgt := 1635) hx hb dL_law_1321 (by decide) ?_
  exact kk τ ad adm σ3 ρ6 H locs ls _ _ hP hD hS hl hC hM (st_keep hR hC0 hM0 hf3 hf6).2 (by omega) (by omega)

set_option maxHeartbeats 4000000 in
set_option maxRecDepth 100000 in
theorem lawc_34 {p : Program} {l : Launch} {e : Env} {s : State} {m : MethodId} {below : List Frame} {meth : Method} {c : Code} {A : Nat → Prop} {b L : Nat} {xs : Nat → Int32} {dC : Nat → ClassId} {dI : Nat → Nat → Nat} {cy : Nat → ClassId} {t : Nat} (C0 : lw_At p s m meth c b L xs) (hL : L ≤ 3072) (hAe : A = fun q : Nat => s.heap.size ≤ q) (hK : va_K (dC, dI) vwCl (tyl cy) s) (hN : NW s) (hZ : va_Z "SeatsRound" "KIND_ABOVE" "[I" (.ref t) A s s.heap) (hT : va_T .int t 7 (fun j => .int (kaI j)) A s s.heap) {i : Nat} (hi : i + 6 ≤ L) {τ : Nat} {ad adm : Nat → Nat} {σ σm : S2} {H : Heap} {locs : List Loc} {ls : Array Slot} {cells slots : Nat} (hP : va_P (dC, dI) vwCl (wG (cC cy ad τ) ad (182 + 6 * (τ + 1)) σ ++ wG (cM cy adm) adm 40 σm) H) (hD : va_D A (wG (cC cy ad τ) ad (182 + 6 * (τ + 1)) σ ++ wG (cM cy adm) adm 40 σm)) (hS : va_S A s.heap H locs) (hl : lv_has ls 4 [(3, .int (nI i)), (2, .ref (adm 0)), (1, .ref (ad 0)), (0, .ref b)]) (hC : IvC 0 τ σ) (hM : IvM 0 σm) (hR : RelL σ σm) (hc : cells ≤ 228 + i) (hs : slots ≤ 23896 + 353 * i) (kk : ∀ (τ : Nat) (ad adm : Nat → Nat) (σ σm : S2) (H : Heap) (locs : List Loc) (ls : Array Slot) (cells slots : Nat), va_P (dC, dI) vwCl (wG (cC cy ad τ) ad (182 + 6 * (τ + 1)) σ ++ wG (cM cy adm) adm 40 σm) H → va_D A (wG (cC cy ad τ) ad (182 + 6 * (τ + 1)) σ ++ wG (cM cy adm) adm 40 σm) → va_S A s.heap H locs → lv_has ls 4 [(3, .int (nI i)), (2, .ref (adm 0)), (1, .ref (ad 0)), (0, .ref b)] → IvC 0 τ σ → IvM 0 σm → RelL σ σm → cells ≤ 228 + (i + 6) → slots ≤ 23896 + 353 * (i + 6) → W p l e room_1 s m #[Value.ref b] below meth c H locs cells slots (lw_Z below #[Value.ref b] s) (F0 m 1635 ls [])) : W p l e room_1 s m #[Value.ref b] below meth c H locs cells slots (lw_Z below #[Value.ref b] s) (F0 m 1324 ls []) := by
  obtain ⟨hx, hb, hr, hml, hown, hts, hX, hbl, hlocks, hgv⟩ := id C0
  have hown : s.vm.findClass RL = some m.cls := hown
  have hts := fun w h => hts w (wsL_law_in w h)
  have hA : ∀ q : Nat, s.heap.size ≤ q → A q := by rw [hAe]; exact fun _ h => h
  have hbA : ¬ A b := by rw [hAe]; exact Nat.not_le.mpr hbl
  have h10 : τ ≤ 10 := by have h9 : 0 ≤ (σ.1 0 6).toInt ∧ (σ.1 0 6).toInt ≤ 10 := hC.1 0 6; have := hC.2.2; omega
  have hC0 := hC
  have hM0 := hM
  refine lv_aload_n hx hb dL_law_1324 rfl (lv_at hl 2 rfl) ?_
  refine lv_aload_n hx hb dL_law_1325 rfl (lv_at hl 3 rfl) ?_
  refine lv_iload_n hx hb dL_law_1326 rfl (lv_at hl 0 rfl) ?_
  refine lv_iconst (v := nI 1) hx hb dL_law_1327 (by decide) ?_
  refine lv_iadd hx hb dL_law_1328 ?_
  refine va_sld hx hb hX hbl hbA hS (sc_in (k := 1) (by omega) (by omega)) dL_law_1329 ?_
  refine lv_topi (fun a1 ea1 => ?_)
  refine lv_aload_n hx hb dL_law_1330 rfl (lv_at hl 3 rfl) ?_
  refine lv_iload_n hx hb dL_law_1331 rfl (lv_at hl 0 rfl) ?_
  refine lv_iconst (v := nI 2) hx hb dL_law_1332 (by decide) ?_
  refine lv_iadd hx hb dL_law_1333 ?_
  refine va_sld hx hb hX hbl hbA hS (sc_in (k := 2) (by omega) (by omega)) dL_law_1334 ?_
  refine lv_topi (fun a2 ea2 => ?_)
  refine lv_aload_n hx hb dL_law_1335 rfl (lv_at hl 3 rfl) ?_
  refine lv_iload_n hx hb dL_law_1336 rfl (lv_at hl 0 rfl) ?_
  refine lv_iconst (v := nI 3) hx hb dL_law_1337 (by decide) ?_
  refine lv_iadd hx hb dL_law_1338 ?_
  refine va_sld hx hb hX hbl hbA hS (sc_in (k := 3) (by omega) (by omega)) dL_law_1339 ?_
  refine lv_topi (fun a3 ea3 => ?_)
  obtain ⟨⟨r4, σ4⟩, hf4, hq4⟩ := (sX11_row τ σ a1 a2 a3 hC)
  have hPc := tb_lP hP
  have hDc := tb_lD hD
  have hFc := fr_A hDc hS hA
  refine va_calli (va_runV (As := [.int a1, .int a2, .int a3]) (rest := []) ⟨hx, hb, hml, hown, hts⟩ (tX11_row l dC dI cy ad τ (τ + 1) (by omega) σ a1 a2 a3 H.size r4 σ4 hf4) (cwV 3 hts gL_law_X11_row rfl rfl rfl (by decide +kernel) ⟨Nat.le_of_ble_eq_true rfl, Nat.le_of_ble_eq_true rfl⟩) (wp_V hK hN hPc hDc (va_recv hK hPc (ci := 11) (q0 := 0) rfl (wG_of (by omega) (cC_0 _ _ _ _ _)))) rfl rfl hl.1 rfl (lv_room (Nat.le_of_ble_eq_true rfl)) dL_law_1340 ⟨by show cells + 0 ≤ 600000; omega, by show slots + 0 ≤ 7302250; omega⟩) hS (fun q _ h => hFc q h) hFc (fun r9 u9 t9 H1 locs ht hvm hw4 hB hz1 hk1 hS => ?_)
  obtain rfl : r4 = r9 := hw4.symm
  obtain ⟨hP1, hD1⟩ := hB
  rw [ht] at hP1
  obtain ⟨hP, hD⟩ := tb_fj hP hD hk1 hFc hP1 hD1
  generalize H1 = H at hP hS ⊢
  have hC : IvC 0 τ σ4 := by first | exact hq4 | exact hq4.1
  refine lv_pop hx hb dL_law_1343 rfl ?_
  refine lv_aload_n hx hb dL_law_1344 rfl (lv_at hl 1 rfl) ?_
  refine lv_aload_n hx hb dL_law_1345 rfl (lv_at hl 3 rfl) ?_
  refine lv_iload_n hx hb dL_law_1346 rfl (lv_at hl 0 rfl) ?_
  refine lv_iconst (v := nI 1) hx hb dL_law_1347 (by decide) ?_
  refine lv_iadd hx hb dL_law_1348 ?_
  refine va_sld hx hb hX hbl hbA hS (sc_in (k := 1) (by omega) (by omega)) dL_law_1349 ?_
  refine lv_topi (fun a5 ea5 => ?_)
  obtain rfl : a1 = a5 := ea1.trans ea5.symm
  refine lv_aload_n hx hb dL_law_1350 rfl (lv_at hl 3 rfl) ?_
  refine lv_iload_n hx hb dL_law_1351 rfl (lv_at hl 0 rfl) ?_
  refine lv_iconst (v := nI 2) hx hb dL_law_1352 (by decide) ?_
  refine lv_iadd hx hb dL_law_1353 ?_
  refine va_sld hx hb hX hbl hbA hS (sc_in (k := 2) (by omega) (by omega)) dL_law_1354 ?_
  refine lv_topi (fun a6 ea6 => ?_)
  obtain rfl : a2 = a6 := ea2.trans ea6.symm
  refine lv_aload_n hx hb dL_law_1355 rfl (lv_at hl 3 rfl) ?_
  refine lv_iload_n hx hb dL_law_1356 rfl (lv_at hl 0 rfl) ?_
  refine lv_iconst (v := nI 3) hx hb dL_law_1357 (by decide) ?_
  refine lv_iadd hx hb dL_law_1358 ?_
  refine va_sld hx hb hX hbl hbA hS (sc_in (k := 3) (by omega) (by omega)) dL_law_1359 ?_
  refine lv_topi (fun a7 ea7 => ?_)
  obtain rfl : a3 = a7 := ea3.trans ea7.symm
  obtain ⟨⟨r8, ρ8⟩, hf8, hq8⟩ := (sX12_row σm a1 a2 a3 hM)
  have hP := tb_swP hP
  have hD := tb_swD hD
  have hPc := tb_lP hP
  have hDc := tb_lD hD
  have hFc := fr_A hDc hS hA
  refine va_calli (va_runV (As := [.int a1, .int a2, .int a3]) (rest := []) ⟨hx, hb, hml, hown, hts⟩ (tX12_row l dC dI cy adm σm a1 a2 a3 H.size r8 ρ8 hf8) (cwV 3 hts gL_law_X12_row rfl rfl rfl (by decide +kernel) ⟨Nat.le_of_ble_eq_true rfl, Nat.le_of_ble_eq_true rfl⟩) (wp_V hK hN hPc hDc (va_recv hK hPc (ci := 12) (q0 := 0) rfl (wG_of (by omega) rfl))) rfl rfl hl.1 rfl (lv_room (Nat.le_of_ble_eq_true rfl)) dL_law_1360 ⟨by show cells + 0 ≤ 600000; omega, by show slots + 0 ≤ 7302250; omega⟩) hS (fun q _ h => hFc q h) hFc (fun r9 u9 t9 H1 locs ht hvm hw8 hB hz1 hk1 hS => ?_)
  obtain rfl : r8 = r9 := hw8.symm
  obtain ⟨hP1, hD1⟩ := hB
  rw [ht] at hP1
  obtain ⟨hP, hD⟩ := tb_fj hP hD hk1 hFc hP1 hD1
  generalize H1 = H at hP hS ⊢
  have hP := tb_swP hP
  have hD := tb_swD hD
  have hM : IvM 0 ρ8 := by first | exact hq8 | exact hq8.1
  refine lv_pop hx hb dL_law_1363 rfl ?_
  refine lv_goto (tgt := 1635) hx hb dL_law_1364 (by decide) ?_
  exact kk τ ad adm σ4 ρ8 H locs ls _ _ hP hD hS hl hC hM (st_row hR hC0 hf4 hf8).2 (by omega) (by omega)

set_option maxHeartbeats 4000000 in
set_option maxRecDepth 100000 in
theorem lawc_35 {p : Program} {l : Launch} {e : Env} {s : State} {m : MethodId} {below : List Frame} {meth : Method} {c : Code} {A : Nat → Prop} {b L : Nat} {xs : Nat → Int32} {dC : Nat → ClassId} {dI : Nat → Nat → Nat} {cy : Nat → ClassId} {t : Nat} (C0 : lw_At p s m meth c b L xs) (hL : L ≤ 3072) (hAe : A = fun q : Nat => s.heap.size ≤ q) (hK : va_K (dC, dI) vwCl (tyl cy) s) (hN : NW s) (hZ : va_Z "SeatsRound" "KIND_ABOVE" "[I" (.ref t) A s s.heap) (hT : va_T .int t 7 (fun j => .int (kaI j)) A s s.heap) {i : Nat} (hi : i + 6 ≤ L) {τ : Nat} {ad adm : Nat → Nat} {σ σm : S2} {H : Heap} {locs : List Loc} {ls : Array Slot} {cells slots : Nat} (hP : va_P (dC, dI) vwCl (wG (cC cy ad τ) ad (182 + 6 * (τ + 1)) σ ++ wG (cM cy adm) adm 40 σm) H) (hD : va_D A (wG (cC cy ad τ) ad (182 + 6 * (τ + 1)) σ ++ wG (cM cy adm) adm 40 σm)) (hS : va_S A s.heap H locs) (hl : lv_has ls 4 [(3, .int (nI i)), (2, .ref (adm 0)), (1, .ref (ad 0)), (0, .ref b)]) (hC : IvC 0 τ σ) (hM : IvM 0 σm) (hR : RelL σ σm) (hc : cells ≤ 228 + i) (hs : slots ≤ 23896 + 353 * i) (kk : ∀ (τ : Nat) (ad adm : Nat → Nat) (σ σm : S2) (H : Heap) (locs : List Loc) (ls : Array Slot) (cells slots : Nat), va_P (dC, dI) vwCl (wG (cC cy ad τ) ad (182 + 6 * (τ + 1)) σ ++ wG (cM cy adm) adm 40 σm) H → va_D A (wG (cC cy ad τ) ad (182 + 6 * (τ + 1)) σ ++ wG (cM cy adm) adm 40 σm) → va_S A s.heap H locs → lv_has ls 4 [(3, .int (nI i)), (2, .ref (adm 0)), (1, .ref (ad 0)), (0, .ref b)] → IvC 0 τ σ → IvM 0 σm → RelL σ σm → cells ≤ 228 + (i + 6) → slots ≤ 23896 + 353 * (i + 6) → W p l e room_1 s m #[Value.ref b] below meth c H locs cells slots (lw_Z below #[Value.ref b] s) (F0 m 1635 ls [])) : W p l e room_1 s m #[Value.ref b] below meth c H locs cells slots (lw_Z below #[Value.ref b] s) (F0 m 1367 ls []) := by
  obtain ⟨hx, hb, hr, hml, hown, hts, hX, hbl, hlocks, hgv⟩ := id C0
  have hown : s.vm.findClass RL = some m.cls := hown
  have hts := fun w h => hts w (wsL_law_in w h)
  have hA : ∀ q : Nat, s.heap.size ≤ q → A q := by rw [hAe]; exact fun _ h => h
  have hbA : ¬ A b := by rw [hAe]; exact Nat.not_le.mpr hbl
  have h10 : τ ≤ 10 := by have h9 : 0 ≤ (σ.1 0 6).toInt ∧ (σ.1 0 6).toInt ≤ 10 := hC.1 0 6; have := hC.2.2; omega
  have hC0 := hC
  have hM0 := hM
  refine lv_aload_n hx hb dL_law_1367 rfl (lv_at hl 2 rfl) ?_
  refine lv_aload_n hx hb dL_law_1368 rfl (lv_at hl 3 rfl) ?_
  refine lv_iload_n hx hb dL_law_1369 rfl (lv_at hl 0 rfl) ?_
  refine lv_iconst (v := nI 1) hx hb dL_law_1370 (by decide) ?_
  refine lv_iadd hx hb dL_law_1371 ?_
  refine va_sld hx hb hX hbl hbA hS (sc_in (k := 1) (by omega) (by omega)) dL_law_1372 ?_
  refine lv_topi (fun a1 ea1 => ?_)
  refine lv_aload_n hx hb dL_law_1373 rfl (lv_at hl 3 rfl) ?_
  refine lv_iload_n hx hb dL_law_1374 rfl (lv_at hl 0 rfl) ?_
  refine lv_iconst (v := nI 2) hx hb dL_law_1375 (by decide) ?_
  refine lv_iadd hx hb dL_law_1376 ?_
  refine va_sld hx hb hX hbl hbA hS (sc_in (k := 2) (by omega) (by omega)) dL_law_1377 ?_
  refine lv_topi (fun a2 ea2 => ?_)
  refine lv_aload_n hx hb dL_law_1378 rfl (lv_at hl 3 rfl) ?_
  refine lv_iload_n hx hb dL_law_1379 rfl (lv_at hl 0 rfl) ?_
  refine lv_iconst (v := nI 3) hx hb dL_law_1380 (by decide) ?_
  refine lv_iadd hx hb dL_law_1381 ?_
  refine va_sld hx hb hX hbl hbA hS (sc_in (k := 3) (by omega) (by omega)) dL_law_1382 ?_
  refine lv_topi (fun a3 ea3 => ?_)
  refine lv_i2l hx hb dL_law_1383 rfl ?_
  refine lv_topl (fun v4 ev4 => ?_)
  refine lv_bipush (v := 32) hx hb dL_law_1384 (by decide) ?_
  refine lv_lshl hx hb dL_law_1386 rfl ?_
  refine lv_topl (fun v5 ev5 => ?_)
  refine lv_aload_n hx hb dL_law_1387 rfl (lv_at hl 3 rfl) ?_
  refine lv_iload_n hx hb dL_law_1388 rfl (lv_at hl 0 rfl) ?_
  refine lv_iconst (v := nI 4) hx hb dL_law_1389 (by decide) ?_
  refine lv_iadd hx hb dL_law_1390 ?_
  refine va_sld hx hb hX hbl hbA hS (sc_in (k := 4) (by omega) (by omega)) dL_law_1391 ?_
  refine lv_topi (fun a6 ea6 => ?_)
  refine lv_i2l hx hb dL_law_1392 rfl ?_
  refine lv_topl (fun v7 ev7 => ?_)
  refine lv_ldc2 hx hb hown (hts (.constantLong RL 158 (4294967295)) (by decide +kernel)) dL_law_1393 ?_
  refine lv_land hx hb dL_law_1396 ?_
  refine lv_topl (fun v8 ev8 => ?_)
  refine lv_lor hx hb dL_law_1397 ?_
  refine lv_topl (fun v9 ev9 => ?_)
  obtain ⟨⟨r10, σ10⟩, hf10, hq10⟩ := (sX11_put τ σ a1 a2 v9 hC)
  have hPc := tb_lP hP
  have hDc := tb_lD hD
  have hFc := fr_A hDc hS hA
  refine va_calli (va_runV (As := [.int a1, .int a2, .long v9]) (rest := []) ⟨hx, hb, hml, hown, hts⟩ (tX11_put l dC dI cy ad τ (τ + 1) (by omega) σ a1 a2 v9 H.size r10 σ10 hf10) (cwV 3 hts gL_law_X11_put rfl rfl rfl (by decide +kernel) ⟨Nat.le_of_ble_eq_true rfl, Nat.le_of_ble_eq_true rfl⟩) (wp_V hK hN hPc hDc (va_recv hK hPc (ci := 11) (q0 := 0) rfl (wG_of (by omega) (cC_0 _ _ _ _ _)))) rfl rfl hl.1 rfl (lv_room (Nat.le_of_ble_eq_true rfl)) dL_law_1398 ⟨by show cells + 0 ≤ 600000; omega, by show slots + 0 ≤ 7302250; omega⟩) hS (fun q _ h => hFc q h) hFc (fun r9 u9 t9 H1 locs ht hvm hw10 hB hz1 hk1 hS => ?_)
  obtain rfl : r10 = r9 := hw10.symm
  obtain ⟨hP1, hD1⟩ := hB
  rw [ht] at hP1
  obtain ⟨hP, hD⟩ := tb_fj hP hD hk1 hFc hP1 hD1
  generalize H1 = H at hP hS ⊢
  have hC : IvC 0 τ σ10 := by first | exact hq10 | exact hq10.1
  refine lv_pop hx hb dL_law_1401 rfl ?_
  refine lv_aload_n hx hb dL_law_1402 rfl (lv_at hl 1 rfl) ?_
  refine lv_aload_n hx hb dL_law_1403 rfl (lv_at hl 3 rfl) ?_
  refine lv_iload_n hx hb dL_law_1404 rfl (lv_at hl 0 rfl) ?_
  refine lv_iconst (v := nI 1) hx hb dL_law_1405 (by decide) ?_
  refine lv_iadd hx hb dL_law_1406 ?_
  refine va_sld hx hb hX hbl hbA hS (sc_in (k := 1) (by omega) (by omega)) dL_law_1407 ?_
  refine lv_topi (fun a11 ea11 => ?_)
  obtain rfl : a1 = a11 := ea1.trans ea11.symm
  refine lv_aload_n hx hb dL_law_1408 rfl (lv_at hl 3 rfl) ?_
  refine lv_iload_n hx hb dL_law_1409 rfl (lv_at hl 0 rfl) ?_
  refine lv_iconst (v := nI 2) hx hb dL_law_1410 (by decide) ?_
  refine lv_iadd hx hb dL_law_1411 ?_
  refine va_sld hx hb hX hbl hbA hS (sc_in (k := 2) (by omega) (by omega)) dL_law_1412 ?_
  refine lv_topi (fun a12 ea12 => ?_)
  obtain rfl : a2 = a12 := ea2.trans ea12.symm
  refine lv_aload_n hx hb dL_law_1413 rfl (lv_at hl 3 rfl) ?_
  refine lv_iload_n hx hb dL_law_1414 rfl (lv_at hl 0 rfl) ?_
  refine lv_iconst (v := nI 3) hx hb dL_law_1415 (by decide) ?_
  refine lv_iadd hx hb dL_law_1416 ?_
  refine va_sld hx hb hX hbl hbA hS (sc_in (k := 3) (by omega) (by omega)) dL_law_1417 ?_
  refine lv_topi (fun a13 ea13 => ?_)
  obtain rfl : a3 = a13 := ea3.trans ea13.symm
  refine lv_i2l hx hb dL_law_1418 rfl ?_
  refine lv_topl (fun v14 ev14 => ?_)
  obtain rfl : v4 = v14 := ev4.trans ev14.symm
  refine lv_bipush (v := 32) hx hb dL_law_1419 (by decide) ?_
  refine lv_lshl hx hb dL_law_1421 rfl ?_
  refine lv_topl (fun v15 ev15 => ?_)
  obtain rfl : v5 = v15 := ev5.trans ev15.symm
  refine lv_aload_n hx hb dL_law_1422 rfl (lv_at hl 3 rfl) ?_
  refine lv_iload_n hx hb dL_law_1423 rfl (lv_at hl 0 rfl) ?_
  refine lv_iconst (v := nI 4) hx hb dL_law_1424 (by decide) ?_
  refine lv_iadd hx hb dL_law_1425 ?_
  refine va_sld hx hb hX hbl hbA hS (sc_in (k := 4) (by omega) (by omega)) dL_law_1426 ?_
  refine lv_topi (fun a16 ea16 => ?_)
  obtain rfl : a6 = a16 := ea6.trans ea16.symm
  refine lv_i2l hx hb dL_law_1427 rfl ?_
  refine lv_topl (fun v17 ev17 => ?_)
  obtain rfl : v7 = v17 := ev7.trans ev17.symm
  refine lv_ldc2 hx hb hown (hts (.constantLong RL 158 (4294967295)) (by decide +kernel)) dL_law_1428 ?_
  refine lv_land hx hb dL_law_1431 ?_
  refine lv_topl (fun v18 ev18 => ?_)
  obtain rfl : v8 = v18 := ev8.trans ev18.symm
  refine lv_lor hx hb dL_law_1432 ?_
  refine lv_topl (fun v19 ev19 => ?_)
  obtain rfl : v9 = v19 := ev9.trans ev19.symm
  obtain ⟨⟨r20, ρ20⟩, hf20, hq20⟩ := (sX12_put σm a1 a2 v9 hM)
  have hP := tb_swP hP
  have hD := tb_swD hD
  have hPc := tb_lP hP
  have hDc := tb_lD hD
  have hFc := fr_A hDc hS hA
  refine va_calli (va_runV (As := [.int a1, .int a2, .long v9]) (rest := []) ⟨hx, hb, hml, hown, hts⟩ (tX12_put l dC dI cy adm σm a1 a2 v9 H.size r20 ρ20 hf20) (cwV 3 hts gL_law_X12_put rfl rfl rfl (by decide +kernel) ⟨Nat.le_of_ble_eq_true rfl, Nat.le_of_ble_eq_true rfl⟩) (wp_V hK hN hPc hDc (va_recv hK hPc (ci := 12) (q0 := 0) rfl (wG_of (by omega) rfl))) rfl rfl hl.1 rfl (lv_room (Nat.le_of_ble_eq_true rfl)) dL_law_1433 ⟨by show cells + 0 ≤ 600000; omega, by show slots + 0 ≤ 7302250; omega⟩) hS (fun q _ h => hFc q h) hFc (fun r9 u9 t9 H1 locs ht hvm hw20 hB hz1 hk1 hS => ?_)
  obtain rfl : r20 = r9 := hw20.symm
  obtain ⟨hP1, hD1⟩ := hB
  rw [ht] at hP1
  obtain ⟨hP, hD⟩ := tb_fj hP hD hk1 hFc hP1 hD1
  generalize H1 = H at hP hS ⊢
  have hP := tb_swP hP
  have hD := tb_swD hD
  have hM : IvM 0 ρ20 := by first | exact hq20 | exact hq20.1
  refine lv_pop hx hb dL_law_1436 rfl ?_
  refine lv_goto (tgt := 1635) hx hb dL_law_1437 (by decide) ?_
  exact kk τ ad adm σ10 ρ20 H locs ls _ _ hP hD hS hl hC hM (st_put hR hC0 hM0 hf10 hf20).2 (by omega) (by omega)

set_option maxHeartbeats 4000000 in
set_option maxRecDepth 100000 in
theorem lawc_36 {p : Program} {l : Launch} {e : Env} {s : State} {m : MethodId} {below : List Frame} {meth : Method} {c : Code} {A : Nat → Prop} {b L : Nat} {xs : Nat → Int32} {dC : Nat → ClassId} {dI : Nat → Nat → Nat} {cy : Nat → ClassId} {t : Nat} (C0 : lw_At p s m meth c b L xs) (hL : L ≤ 3072) (hAe : A = fun q : Nat => s.heap.size ≤ q) (hK : va_K (dC, dI) vwCl (tyl cy) s) (hN : NW s) (hZ : va_Z "SeatsRound" "KIND_ABOVE" "[I" (.ref t) A s s.heap) (hT : va_T .int t 7 (fun j => .int (kaI j)) A s s.heap) {i : Nat} (hi : i + 6 ≤ L) {τ : Nat} {ad adm : Nat → Nat} {σ σm : S2} {H : Heap} {locs : List Loc} {ls : Array Slot} {cells slots : Nat} (hP : va_P (dC, dI) vwCl (wG (cC cy ad τ) ad (182 + 6 * (τ + 1)) σ ++ wG (cM cy adm) adm 40 σm) H) (hD : va_D A (wG (cC cy ad τ) ad (182 + 6 * (τ + 1)) σ ++ wG (cM cy adm) adm 40 σm)) (hS : va_S A s.heap H locs) (hl : lv_has ls 4 [(3, .int (nI i)), (2, .ref (adm 0)), (1, .ref (ad 0)), (0, .ref b)]) (hC : IvC 0 τ σ) (hM : IvM 0 σm) (hR : RelL σ σm) (hc : cells ≤ 228 + i) (hs : slots ≤ 23896 + 353 * i) (kk : ∀ (τ : Nat) (ad adm : Nat → Nat) (σ σm : S2) (H : Heap) (locs : List Loc) (ls : Array Slot) (cells slots : Nat), va_P (dC, dI) vwCl (wG (cC cy ad τ) ad (182 + 6 * (τ + 1)) σ ++ wG (cM cy adm) adm 40 σm) H → va_D A (wG (cC cy ad τ) ad (182 + 6 * (τ + 1)) σ ++ wG (cM cy adm) adm 40 σm) → va_S A s.heap H locs → lv_has ls 4 [(3, .int (nI i)), (2, .ref (adm 0)), (1, .ref (ad 0)), (0, .ref b)] → IvC 0 τ σ → IvM 0 σm → RelL σ σm → cells ≤ 228 + (i + 6) → slots ≤ 23896 + 353 * (i + 6) → W p l e room_1 s m #[Value.ref b] below meth c H locs cells slots (lw_Z below #[Value.ref b] s) (F0 m 1635 ls [])) : W p l e room_1 s m #[Value.ref b] below meth c H locs cells slots (lw_Z below #[Value.ref b] s) (F0 m 1440 ls []) := by
  obtain ⟨hx, hb, hr, hml, hown, hts, hX, hbl, hlocks, hgv⟩ := id C0
  have hown : s.vm.findClass RL = some m.cls := hown
  have hts := fun w h => hts w (wsL_law_in w h)
  have hA : ∀ q : Nat, s.heap.size ≤ q → A q := by rw [hAe]; exact fun _ h => h
  have hbA : ¬ A b := by rw [hAe]; exact Nat.not_le.mpr hbl
  have h10 : τ ≤ 10 := by have h9 : 0 ≤ (σ.1 0 6).toInt ∧ (σ.1 0 6).toInt ≤ 10 := hC.1 0 6; have := hC.2.2; omega
  have hC0 := hC
  have hM0 := hM
  refine lv_aload_n hx hb dL_law_1440 rfl (lv_at hl 2 rfl) ?_
  refine lv_aload_n hx hb dL_law_1441 rfl (lv_at hl 3 rfl) ?_
  refine lv_iload_n hx hb dL_law_1442 rfl (lv_at hl 0 rfl) ?_
  refine lv_iconst (v := nI 1) hx hb dL_law_1443 (by decide) ?_
  refine lv_iadd hx hb dL_law_1444 ?_
  refine va_sld hx hb hX hbl hbA hS (sc_in (k := 1) (by omega) (by omega)) dL_law_1445 ?_
  refine lv_topi (fun a1 ea1 => ?_)
  refine lv_aload_n hx hb dL_law_1446 rfl (lv_at hl 3 rfl) ?_
  refine lv_iload_n hx hb dL_law_1447 rfl (lv_at hl 0 rfl) ?_
  refine lv_iconst (v := nI 2) hx hb dL_law_1448 (by decide) ?_
  refine lv_iadd hx hb dL_law_1449 ?_
  refine va_sld hx hb hX hbl hbA hS (sc_in (k := 2) (by omega) (by omega)) dL_law_1450 ?_
  refine lv_topi (fun a2 ea2 => ?_)
  obtain ⟨r3, hf3, hq3⟩ := (sX11_element τ σ a1 a2 hC)
  have hPc := tb_lP hP
  have hDc := tb_lD hD
  have hFc := fr_A hDc hS hA
  refine va_calll (va_runV (As := [.int a1, .int a2]) (rest := []) ⟨hx, hb, hml, hown, hts⟩ (tX11_element l dC dI cy ad τ (τ + 1) (by omega) σ a1 a2 H.size r3 hf3) (cwV 2 hts gL_law_X11_element rfl rfl rfl (by decide +kernel) ⟨Nat.le_of_ble_eq_true rfl, Nat.le_of_ble_eq_true rfl⟩) (wp_V hK hN hPc hDc (va_recv hK hPc (ci := 11) (q0 := 0) rfl (wG_of (by omega) (cC_0 _ _ _ _ _)))) rfl rfl hl.1 rfl (lv_room (Nat.le_of_ble_eq_true rfl)) dL_law_1451 ⟨by show cells + 0 ≤ 600000; omega, by show slots + 0 ≤ 7302250; omega⟩) hS (fun q _ h => hFc q h) hFc (fun r9 u9 t9 H1 locs ht hvm hw3 hB hz1 hk1 hS => ?_)
  obtain rfl : r3 = r9 := hw3.symm
  obtain ⟨hP1, hD1⟩ := hB
  rw [ht] at hP1
  obtain ⟨hP, hD⟩ := tb_fj hP hD hk1 hFc hP1 hD1
  generalize H1 = H at hP hS ⊢
  refine lv_pop2_2 hx hb dL_law_1454 rfl ?_
  refine lv_aload_n hx hb dL_law_1455 rfl (lv_at hl 1 rfl) ?_
  refine lv_aload_n hx hb dL_law_1456 rfl (lv_at hl 3 rfl) ?_
  refine lv_iload_n hx hb dL_law_1457 rfl (lv_at hl 0 rfl) ?_
  refine lv_iconst (v := nI 1) hx hb dL_law_1458 (by decide) ?_
  refine lv_iadd hx hb dL_law_1459 ?_
  refine va_sld hx hb hX hbl hbA hS (sc_in (k := 1) (by omega) (by omega)) dL_law_1460 ?_
  refine lv_topi (fun a4 ea4 => ?_)
  obtain rfl : a1 = a4 := ea1.trans ea4.symm
  refine lv_aload_n hx hb dL_law_1461 rfl (lv_at hl 3 rfl) ?_
  refine lv_iload_n hx hb dL_law_1462 rfl (lv_at hl 0 rfl) ?_
  refine lv_iconst (v := nI 2) hx hb dL_law_1463 (by decide) ?_
  refine lv_iadd hx hb dL_law_1464 ?_
  refine va_sld hx hb hX hbl hbA hS (sc_in (k := 2) (by omega) (by omega)) dL_law_1465 ?_
  refine lv_topi (fun a5 ea5 => ?_)
  obtain rfl : a2 = a5 := ea2.trans ea5.symm
  obtain ⟨r6, hf6, hq6⟩ := (sX12_element σm a1 a2 hM)
  have hP := tb_swP hP
  have hD := tb_swD hD
  have hPc := tb_lP hP
  have hDc := tb_lD hD
  have hFc := fr_A hDc hS hA
  refine va_calll (va_runV (As := [.int a1, .int a2]) (rest := []) ⟨hx, hb, hml, hown, hts⟩ (tX12_element l dC dI cy adm σm a1 a2 H.size r6 hf6) (cwV 2 hts gL_law_X12_element rfl rfl rfl (by decide +kernel) ⟨Nat.le_of_ble_eq_true rfl, Nat.le_of_ble_eq_true rfl⟩) (wp_V hK hN hPc hDc (va_recv hK hPc (ci := 12) (q0 := 0) rfl (wG_of (by omega) rfl))) rfl rfl hl.1 rfl (lv_room (Nat.le_of_ble_eq_true rfl)) dL_law_1466 ⟨by show cells + 0 ≤ 600000; omega, by show slots + 0 ≤ 7302250; omega⟩) hS (fun q _ h => hFc q h) hFc (fun r9 u9 t9 H1 locs ht hvm hw6 hB hz1 hk1 hS => ?_)
  obtain rfl : r6 = r9 := hw6.symm
  obtain ⟨hP1, hD1⟩ := hB
  rw [ht] at hP1
  obtain ⟨hP, hD⟩ := tb_fj hP hD hk1 hFc hP1 hD1
  generalize H1 = H at hP hS ⊢
  have hP := tb_swP hP
  have hD := tb_swD hD
  refine lv_pop2_2 hx hb dL_law_1469 rfl ?_
  refine lv_goto (tgt := 1635) hx hb dL_law_1470 (by decide) ?_
  exact kk τ ad adm σ σm H locs ls _ _ hP hD hS hl hC hM (RelA.fr (a := 0) (b := 0) hR (Fr.rf _) (Fr.rf _) rfl rfl) (by omega) (by omega)

set_option maxHeartbeats 4000000 in
set_option maxRecDepth 100000 in
theorem lawc_37 {p : Program} {l : Launch} {e : Env} {s : State} {m : MethodId} {below : List Frame} {meth : Method} {c : Code} {A : Nat → Prop} {b L : Nat} {xs : Nat → Int32} {dC : Nat → ClassId} {dI : Nat → Nat → Nat} {cy : Nat → ClassId} {t : Nat} (C0 : lw_At p s m meth c b L xs) (hL : L ≤ 3072) (hAe : A = fun q : Nat => s.heap.size ≤ q) (hK : va_K (dC, dI) vwCl (tyl cy) s) (hN : NW s) (hZ : va_Z "SeatsRound" "KIND_ABOVE" "[I" (.ref t) A s s.heap) (hT : va_T .int t 7 (fun j => .int (kaI j)) A s s.heap) {i : Nat} (hi : i + 6 ≤ L) {τ : Nat} {ad adm : Nat → Nat} {σ σm : S2} {H : Heap} {locs : List Loc} {ls : Array Slot} {cells slots : Nat} (hP : va_P (dC, dI) vwCl (wG (cC cy ad τ) ad (182 + 6 * (τ + 1)) σ ++ wG (cM cy adm) adm 40 σm) H) (hD : va_D A (wG (cC cy ad τ) ad (182 + 6 * (τ + 1)) σ ++ wG (cM cy adm) adm 40 σm)) (hS : va_S A s.heap H locs) (hl : lv_has ls 4 [(3, .int (nI i)), (2, .ref (adm 0)), (1, .ref (ad 0)), (0, .ref b)]) (hC : IvC 0 τ σ) (hM : IvM 0 σm) (hR : RelL σ σm) (hc : cells ≤ 228 + i) (hs : slots ≤ 23896 + 353 * i) (kk : ∀ (τ : Nat) (ad adm : Nat → Nat) (σ σm : S2) (H : Heap) (locs : List Loc) (ls : Array Slot) (cells slots : Nat), va_P (dC, dI) vwCl (wG (cC cy ad τ) ad (182 + 6 * (τ + 1)) σ ++ wG (cM cy adm) adm 40 σm) H → va_D A (wG (cC cy ad τ) ad (182 + 6 * (τ + 1)) σ ++ wG (cM cy adm) adm 40 σm) → va_S A s.heap H locs → lv_has ls 4 [(3, .int (nI i)), (2, .ref (adm 0)), (1, .ref (ad 0)), (0, .ref b)] → IvC 0 τ σ → IvM 0 σm → RelL σ σm → cells ≤ 228 + (i + 6) → slots ≤ 23896 + 353 * (i + 6) → W p l e room_1 s m #[Value.ref b] below meth c H locs cells slots (lw_Z below #[Value.ref b] s) (F0 m 1635 ls [])) : W p l e room_1 s m #[Value.ref b] below meth c H locs cells slots (lw_Z below #[Value.ref b] s) (F0 m 1473 ls []) := by
  obtain ⟨hx, hb, hr, hml, hown, hts, hX, hbl, hlocks, hgv⟩ := id C0
  have hown : s.vm.findClass RL = some m.cls := hown
  have hts := fun w h => hts w (wsL_law_in w h)
  have hA : ∀ q : Nat, s.heap.size ≤ q → A q := by rw [hAe]; exact fun _ h => h
  have hbA : ¬ A b := by rw [hAe]; exact Nat.not_le.mpr hbl
  have h10 : τ ≤ 10 := by have h9 : 0 ≤ (σ.1 0 6).toInt ∧ (σ.1 0 6).toInt ≤ 10 := hC.1 0 6; have := hC.2.2; omega
  have hC0 := hC
  have hM0 := hM
  refine lv_aload_n hx hb dL_law_1473 rfl (lv_at hl 2 rfl) ?_
  refine lv_aload_n hx hb dL_law_1474 rfl (lv_at hl 3 rfl) ?_
  refine lv_iload_n hx hb dL_law_1475 rfl (lv_at hl 0 rfl) ?_
  refine lv_iconst (v := nI 1) hx hb dL_law_1476 (by decide) ?_
  refine lv_iadd hx hb dL_law_1477 ?_
  refine va_sld hx hb hX hbl hbA hS (sc_in (k := 1) (by omega) (by omega)) dL_law_1478 ?_
  refine lv_topi (fun a1 ea1 => ?_)
  refine lv_aload_n hx hb dL_law_1479 rfl (lv_at hl 3 rfl) ?_
  refine lv_iload_n hx hb dL_law_1480 rfl (lv_at hl 0 rfl) ?_
  refine lv_iconst (v := nI 2) hx hb dL_law_1481 (by decide) ?_
  refine lv_iadd hx hb dL_law_1482 ?_
  refine va_sld hx hb hX hbl hbA hS (sc_in (k := 2) (by omega) (by omega)) dL_law_1483 ?_
  refine lv_topi (fun a2 ea2 => ?_)
  refine lv_aload_n hx hb dL_law_1484 rfl (lv_at hl 3 rfl) ?_
  refine lv_iload_n hx hb dL_law_1485 rfl (lv_at hl 0 rfl) ?_
  refine lv_iconst (v := nI 3) hx hb dL_law_1486 (by decide) ?_
  refine lv_iadd hx hb dL_law_1487 ?_
  refine va_sld hx hb hX hbl hbA hS (sc_in (k := 3) (by omega) (by omega)) dL_law_1488 ?_
  refine lv_topi (fun a3 ea3 => ?_)
  refine lv_aload_n hx hb dL_law_1489 rfl (lv_at hl 3 rfl) ?_
  refine lv_iload_n hx hb dL_law_1490 rfl (lv_at hl 0 rfl) ?_
  refine lv_iconst (v := nI 4) hx hb dL_law_1491 (by decide) ?_
  refine lv_iadd hx hb dL_law_1492 ?_
  refine va_sld hx hb hX hbl hbA hS (sc_in (k := 4) (by omega) (by omega)) dL_law_1493 ?_
  refine lv_topi (fun a4 ea4 => ?_)
  refine lv_aload_n hx hb dL_law_1494 rfl (lv_at hl 3 rfl) ?_
  refine lv_iload_n hx hb dL_law_1495 rfl (lv_at hl 0 rfl) ?_
  refine lv_iconst (v := nI 5) hx hb dL_law_1496 (by decide) ?_
  refine lv_iadd hx hb dL_law_1497 ?_
  refine va_sld hx hb hX hbl hbA hS (sc_in (k := 5) (by omega) (by omega)) dL_law_1498 ?_
  refine lv_topi (fun a5 ea5 => ?_)
  obtain ⟨⟨r6, σ6⟩, hf6, hq6⟩ := (sX11_shift τ σ a1 a2 a3 a4 a5 hC)
  have hPc := tb_lP hP
  have hDc := tb_lD hD
  have hFc := fr_A hDc hS hA
  refine va_calli (va_runV (As := [.int a1, .int a2, .int a3, .int a4, .int a5]) (rest := []) ⟨hx, hb, hml, hown, hts⟩ (tX11_shift l dC dI cy ad τ (τ + 1) (by omega) σ a1 a2 a3 a4 a5 H.size r6 σ6 hf6) (cwV 5 hts gL_law_X11_shift rfl rfl rfl (by decide +kernel) ⟨Nat.le_of_ble_eq_true rfl, Nat.le_of_ble_eq_true rfl⟩) (wp_V hK hN hPc hDc (va_recv hK hPc (ci := 11) (q0 := 0) rfl (wG_of (by omega) (cC_0 _ _ _ _ _)))) rfl rfl hl.1 rfl (lv_room (Nat.le_of_ble_eq_true rfl)) dL_law_1499 ⟨by show cells + 0 ≤ 600000; omega, by show slots + 0 ≤ 7302250; omega⟩) hS (fun q _ h => hFc q h) hFc (fun r9 u9 t9 H1 locs ht hvm hw6 hB hz1 hk1 hS => ?_)
  obtain rfl : r6 = r9 := hw6.symm
  obtain ⟨hP1, hD1⟩ := hB
  rw [ht] at hP1
  obtain ⟨hP, hD⟩ := tb_fj hP hD hk1 hFc hP1 hD1
  generalize H1 = H at hP hS ⊢
  have hC : IvC 0 τ σ6 := by first | exact hq6 | exact hq6.1
  refine lv_pop hx hb dL_law_1502 rfl ?_
  refine lv_aload_n hx hb dL_law_1503 rfl (lv_at hl 1 rfl) ?_
  refine lv_aload_n hx hb dL_law_1504 rfl (lv_at hl 3 rfl) ?_
  refine lv_iload_n hx hb dL_law_1505 rfl (lv_at hl 0 rfl) ?_
  refine lv_iconst (v := nI 1) hx hb dL_law_1506 (by decide) ?_
  refine lv_iadd hx hb dL_law_1507 ?_
  refine va_sld hx hb hX hbl hbA hS (sc_in (k := 1) (by omega) (by omega)) dL_law_1508 ?_
  refine lv_topi (fun a7 ea7 => ?_)
  obtain rfl : a1 = a7 := ea1.trans ea7.symm
  refine lv_aload_n hx hb dL_law_1509 rfl (lv_at hl 3 rfl) ?_
  refine lv_iload_n hx hb dL_law_1510 rfl (lv_at hl 0 rfl) ?_
  refine lv_iconst (v := nI 2) hx hb dL_law_1511 (by decide) ?_
  refine lv_iadd hx hb dL_law_1512 ?_
  refine va_sld hx hb hX hbl hbA hS (sc_in (k := 2) (by omega) (by omega)) dL_law_1513 ?_
  refine lv_topi (fun a8 ea8 => ?_)
  obtain rfl : a2 = a8 := ea2.trans ea8.symm
  refine lv_aload_n hx hb dL_law_1514 rfl (lv_at hl 3 rfl) ?_
  refine lv_iload_n hx hb dL_law_1515 rfl (lv_at hl 0 rfl) ?_
  refine lv_iconst (v := nI 3) hx hb dL_law_1516 (by decide) ?_
  refine lv_iadd hx hb dL_law_1517 ?_
  refine va_sld hx hb hX hbl hbA hS (sc_in (k := 3) (by omega) (by omega)) dL_law_1518 ?_
  refine lv_topi (fun a9 ea9 => ?_)
  obtain rfl : a3 = a9 := ea3.trans ea9.symm
  refine lv_aload_n hx hb dL_law_1519 rfl (lv_at hl 3 rfl) ?_
  refine lv_iload_n hx hb dL_law_1520 rfl (lv_at hl 0 rfl) ?_
  refine lv_iconst (v := nI 4) hx hb dL_law_1521 (by decide) ?_
  refine lv_iadd hx hb dL_law_1522 ?_
  refine va_sld hx hb hX hbl hbA hS (sc_in (k := 4) (by omega) (by omega)) dL_law_1523 ?_
  refine lv_topi (fun a10 ea10 => ?_)
  obtain rfl : a4 = a10 := ea4.trans ea10.symm
  refine lv_aload_n hx hb dL_law_1524 rfl (lv_at hl 3 rfl) ?_
  refine lv_iload_n hx hb dL_law_1525 rfl (lv_at hl 0 rfl) ?_
  refine lv_iconst (v := nI 5) hx hb dL_law_1526 (by decide) ?_
  refine lv_iadd hx hb dL_law_1527 ?_
  refine va_sld hx hb hX hbl hbA hS (sc_in (k := 5) (by omega) (by omega)) dL_law_1528 ?_
  refine lv_topi (fun a11 ea11 => ?_)
  obtain rfl : a5 = a11 := ea5.trans ea11.symm
  obtain ⟨⟨r12, ρ12⟩, hf12, hq12⟩ := (sX12_shift σm a1 a2 a3 a4 a5 hM)
  have hP := tb_swP hP
  have hD := tb_swD hD
  have hPc := tb_lP hP
  have hDc := tb_lD hD
  have hFc := fr_A hDc hS hA
  refine va_calli (va_runV (As := [.int a1, .int a2, .int a3, .int a4, .int a5]) (rest := []) ⟨hx, hb, hml, hown, hts⟩ (tX12_shift l dC dI cy adm σm a1 a2 a3 a4 a5 H.size r12 ρ12 hf12) (cwV 5 hts gL_law_X12_shift rfl rfl rfl (by decide +kernel) ⟨Nat.le_of_ble_eq_true rfl, Nat.le_of_ble_eq_true rfl⟩) (wp_V hK hN hPc hDc (va_recv hK hPc (ci := 12) (q0 := 0) rfl (wG_of (by omega) rfl))) rfl rfl hl.1 rfl (lv_room (Nat.le_of_ble_eq_true rfl)) dL_law_1529 ⟨by show cells + 0 ≤ 600000; omega, by show slots + 0 ≤ 7302250; omega⟩) hS (fun q _ h => hFc q h) hFc (fun r9 u9 t9 H1 locs ht hvm hw12 hB hz1 hk1 hS => ?_)
  obtain rfl : r12 = r9 := hw12.symm
  obtain ⟨hP1, hD1⟩ := hB
  rw [ht] at hP1
  obtain ⟨hP, hD⟩ := tb_fj hP hD hk1 hFc hP1 hD1
  generalize H1 = H at hP hS ⊢
  have hP := tb_swP hP
  have hD := tb_swD hD
  have hM : IvM 0 ρ12 := by first | exact hq12 | exact hq12.1
  refine lv_pop hx hb dL_law_1532 rfl ?_
  refine lv_goto (tgt := 1635) hx hb dL_law_1533 (by decide) ?_
  exact kk τ ad adm σ6 ρ12 H locs ls _ _ hP hD hS hl hC hM (st_shift hR hC0 hM0 hf6 hf12).2 (by omega) (by omega)

set_option maxHeartbeats 4000000 in
set_option maxRecDepth 100000 in
theorem lawc_38 {p : Program} {l : Launch} {e : Env} {s : State} {m : MethodId} {below : List Frame} {meth : Method} {c : Code} {A : Nat → Prop} {b L : Nat} {xs : Nat → Int32} {dC : Nat → ClassId} {dI : Nat → Nat → Nat} {cy : Nat → ClassId} {t : Nat} (C0 : lw_At p s m meth c b L xs) (hL : L ≤ 3072) (hAe : A = fun q : Nat => s.heap.size ≤ q) (hK : va_K (dC, dI) vwCl (tyl cy) s) (hN : NW s) (hZ : va_Z "SeatsRound" "KIND_ABOVE" "[I" (.ref t) A s s.heap) (hT : va_T .int t 7 (fun j => .int (kaI j)) A s s.heap) {i : Nat} (hi : i + 6 ≤ L) {τ : Nat} {ad adm : Nat → Nat} {σ σm : S2} {H : Heap} {locs : List Loc} {ls : Array Slot} {cells slots : Nat} (hP : va_P (dC, dI) vwCl (wG (cC cy ad τ) ad (182 + 6 * (τ + 1)) σ ++ wG (cM cy adm) adm 40 σm) H) (hD : va_D A (wG (cC cy ad τ) ad (182 + 6 * (τ + 1)) σ ++ wG (cM cy adm) adm 40 σm)) (hS : va_S A s.heap H locs) (hl : lv_has ls 4 [(3, .int (nI i)), (2, .ref (adm 0)), (1, .ref (ad 0)), (0, .ref b)]) (hC : IvC 0 τ σ) (hM : IvM 0 σm) (hR : RelL σ σm) (hc : cells ≤ 228 + i) (hs : slots ≤ 23896 + 353 * i) (kk : ∀ (τ : Nat) (ad adm : Nat → Nat) (σ σm : S2) (H : Heap) (locs : List Loc) (ls : Array Slot) (cells slots : Nat), va_P (dC, dI) vwCl (wG (cC cy ad τ) ad (182 + 6 * (τ + 1)) σ ++ wG (cM cy adm) adm 40 σm) H → va_D A (wG (cC cy ad τ) ad (182 + 6 * (τ + 1)) σ ++ wG (cM cy adm) adm 40 σm) → va_S A s.heap H locs → lv_has ls 4 [(3, .int (nI i)), (2, .ref (adm 0)), (1, .ref (ad 0)), (0, .ref b)] → IvC 0 τ σ → IvM 0 σm → RelL σ σm → cells ≤ 228 + (i + 6) → slots ≤ 23896 + 353 * (i + 6) → W p l e room_1 s m #[Value.ref b] below meth c H locs cells slots (lw_Z below #[Value.ref b] s) (F0 m 1635 ls [])) : W p l e room_1 s m #[Value.ref b] below meth c H locs cells slots (lw_Z below #[Value.ref b] s) (F0 m 1536 ls []) := by
  obtain ⟨hx, hb, hr, hml, hown, hts, hX, hbl, hlocks, hgv⟩ := id C0
  have hown : s.vm.findClass RL = some m.cls := hown
  have hts := fun w h => hts w (wsL_law_in w h)
  have hA : ∀ q : Nat, s.heap.size ≤ q → A q := by rw [hAe]; exact fun _ h => h
  have hbA : ¬ A b := by rw [hAe]; exact Nat.not_le.mpr hbl
  have h10 : τ ≤ 10 := by have h9 : 0 ≤ (σ.1 0 6).toInt ∧ (σ.1 0 6).toInt ≤ 10 := hC.1 0 6; have := hC.2.2; omega
  have hC0 := hC
  have hM0 := hM
  refine lv_aload_n hx hb dL_law_1536 rfl (lv_at hl 2 rfl) ?_
  refine lv_aload_n hx hb dL_law_1537 rfl (lv_at hl 3 rfl) ?_
  refine lv_iload_n hx hb dL_law_1538 rfl (lv_at hl 0 rfl) ?_
  refine lv_iconst (v := nI 1) hx hb dL_law_1539 (by decide) ?_
  refine lv_iadd hx hb dL_law_1540 ?_
  refine va_sld hx hb hX hbl hbA hS (sc_in (k := 1) (by omega) (by omega)) dL_law_1541 ?_
  refine lv_topi (fun a1 ea1 => ?_)
  refine lv_aload_n hx hb dL_law_1542 rfl (lv_at hl 3 rfl) ?_
  refine lv_iload_n hx hb dL_law_1543 rfl (lv_at hl 0 rfl) ?_
  refine lv_iconst (v := nI 2) hx hb dL_law_1544 (by decide) ?_
  refine lv_iadd hx hb dL_law_1545 ?_
  refine va_sld hx hb hX hbl hbA hS (sc_in (k := 2) (by omega) (by omega)) dL_law_1546 ?_
  refine lv_topi (fun a2 ea2 => ?_)
  obtain ⟨r3, hf3, hq3⟩ := (sX11_taken τ σ a1 a2 hC)
  have hPc := tb_lP hP
  have hDc := tb_lD hD
  have hFc := fr_A hDc hS hA
  refine va_calli (va_runV (As := [.int a1, .int a2]) (rest := []) ⟨hx, hb, hml, hown, hts⟩ (tX11_taken l dC dI cy ad t τ (τ + 1) (by omega) σ a1 a2 H.size r3 hf3) (cwV 2 hts gL_law_X11_taken rfl rfl rfl (by decide +kernel) ⟨Nat.le_of_ble_eq_true rfl, Nat.le_of_ble_eq_true rfl⟩) (wp_VK hK hN hPc hDc (va_recv hK hPc (ci := 11) (q0 := 0) rfl (wG_of (by omega) (cC_0 _ _ _ _ _))) hZ hT hS hFc) rfl rfl hl.1 rfl (lv_room (Nat.le_of_ble_eq_true rfl)) dL_law_1547 ⟨by show cells + 0 ≤ 600000; omega, by show slots + 0 ≤ 7302250; omega⟩) hS (fun q _ h => hFc q h) hFc (fun r9 u9 t9 H1 locs ht hvm hw3 hB hz1 hk1 hS => ?_)
  obtain rfl : r3 = r9 := hw3.symm
  obtain ⟨hP1, hD1⟩ := hB
  rw [ht] at hP1
  obtain ⟨hP, hD⟩ := tb_fj hP hD hk1 hFc hP1 hD1
  generalize H1 = H at hP hS ⊢
  refine lv_pop hx hb dL_law_1550 rfl ?_
  refine lv_aload_n hx hb dL_law_1551 rfl (lv_at hl 1 rfl) ?_
  refine lv_aload_n hx hb dL_law_1552 rfl (lv_at hl 3 rfl) ?_
  refine lv_iload_n hx hb dL_law_1553 rfl (lv_at hl 0 rfl) ?_
  refine lv_iconst (v := nI 1) hx hb dL_law_1554 (by decide) ?_
  refine lv_iadd hx hb dL_law_1555 ?_
  refine va_sld hx hb hX hbl hbA hS (sc_in (k := 1) (by omega) (by omega)) dL_law_1556 ?_
  refine lv_topi (fun a4 ea4 => ?_)
  obtain rfl : a1 = a4 := ea1.trans ea4.symm
  refine lv_aload_n hx hb dL_law_1557 rfl (lv_at hl 3 rfl) ?_
  refine lv_iload_n hx hb dL_law_1558 rfl (lv_at hl 0 rfl) ?_
  refine lv_iconst (v := nI 2) hx hb dL_law_1559 (by decide) ?_
  refine lv_iadd hx hb dL_law_1560 ?_
  refine va_sld hx hb hX hbl hbA hS (sc_in (k := 2) (by omega) (by omega)) dL_law_1561 ?_
  refine lv_topi (fun a5 ea5 => ?_)
  obtain rfl : a2 = a5 := ea2.trans ea5.symm
  obtain ⟨r6, hf6, hq6⟩ := (sX12_taken σm a1 a2 hM)
  have hP := tb_swP hP
  have hD := tb_swD hD
  have hPc := tb_lP hP
  have hDc := tb_lD hD
  have hFc := fr_A hDc hS hA
  refine va_calli (va_runV (As := [.int a1, .int a2]) (rest := []) ⟨hx, hb, hml, hown, hts⟩ (tX12_taken l dC dI cy adm σm a1 a2 H.size r6 hf6) (cwV 2 hts gL_law_X12_taken rfl rfl rfl (by decide +kernel) ⟨Nat.le_of_ble_eq_true rfl, Nat.le_of_ble_eq_true rfl⟩) (wp_V hK hN hPc hDc (va_recv hK hPc (ci := 12) (q0 := 0) rfl (wG_of (by omega) rfl))) rfl rfl hl.1 rfl (lv_room (Nat.le_of_ble_eq_true rfl)) dL_law_1562 ⟨by show cells + 0 ≤ 600000; omega, by show slots + 0 ≤ 7302250; omega⟩) hS (fun q _ h => hFc q h) hFc (fun r9 u9 t9 H1 locs ht hvm hw6 hB hz1 hk1 hS => ?_)
  obtain rfl : r6 = r9 := hw6.symm
  obtain ⟨hP1, hD1⟩ := hB
  rw [ht] at hP1
  obtain ⟨hP, hD⟩ := tb_fj hP hD hk1 hFc hP1 hD1
  generalize H1 = H at hP hS ⊢
  have hP := tb_swP hP
  have hD := tb_swD hD
  refine lv_pop hx hb dL_law_1565 rfl ?_
  refine lv_goto (tgt := 1635) hx hb dL_law_1566 (by decide) ?_
  exact kk τ ad adm σ σm H locs ls _ _ hP hD hS hl hC hM (RelA.fr (a := 0) (b := 0) hR (Fr.rf _) (Fr.rf _) rfl rfl) (by omega) (by omega)

set_option maxHeartbeats 4000000 in
set_option maxRecDepth 100000 in
theorem lawc_39 {p : Program} {l : Launch} {e : Env} {s : State} {m : MethodId} {below : List Frame} {meth : Method} {c : Code} {A : Nat → Prop} {b L : Nat} {xs : Nat → Int32} {dC : Nat → ClassId} {dI : Nat → Nat → Nat} {cy : Nat → ClassId} {t : Nat} (C0 : lw_At p s m meth c b L xs) (hL : L ≤ 3072) (hAe : A = fun q : Nat => s.heap.size ≤ q) (hK : va_K (dC, dI) vwCl (tyl cy) s) (hN : NW s) (hZ : va_Z "SeatsRound" "KIND_ABOVE" "[I" (.ref t) A s s.heap) (hT : va_T .int t 7 (fun j => .int (kaI j)) A s s.heap) {i : Nat} (hi : i + 6 ≤ L) {τ : Nat} {ad adm : Nat → Nat} {σ σm : S2} {H : Heap} {locs : List Loc} {ls : Array Slot} {cells slots : Nat} (hP : va_P (dC, dI) vwCl (wG (cC cy ad τ) ad (182 + 6 * (τ + 1)) σ ++ wG (cM cy adm) adm 40 σm) H) (hD : va_D A (wG (cC cy ad τ) ad (182 + 6 * (τ + 1)) σ ++ wG (cM cy adm) adm 40 σm)) (hS : va_S A s.heap H locs) (hl : lv_has ls 4 [(3, .int (nI i)), (2, .ref (adm 0)), (1, .ref (ad 0)), (0, .ref b)]) (hC : IvC 0 τ σ) (hM : IvM 0 σm) (hR : RelL σ σm) (hc : cells ≤ 228 + i) (hs : slots ≤ 23896 + 353 * i) (kk : ∀ (τ : Nat) (ad adm : Nat → Nat) (σ σm : S2) (H : Heap) (locs : List Loc) (ls : Array Slot) (cells slots : Nat), va_P (dC, dI) vwCl (wG (cC cy ad τ) ad (182 + 6 * (τ + 1)) σ ++ wG (cM cy adm) adm 40 σm) H → va_D A (wG (cC cy ad τ) ad (182 + 6 * (τ + 1)) σ ++ wG (cM cy adm) adm 40 σm) → va_S A s.heap H locs → lv_has ls 4 [(3, .int (nI i)), (2, .ref (adm 0)), (1, .ref (ad 0)), (0, .ref b)] → IvC 0 τ σ → IvM 0 σm → RelL σ σm → cells ≤ 228 + (i + 6) → slots ≤ 23896 + 353 * (i + 6) → W p l e room_1 s m #[Value.ref b] below meth c H locs cells slots (lw_Z below #[Value.ref b] s) (F0 m 1635 ls [])) : W p l e room_1 s m #[Value.ref b] below meth c H locs cells slots (lw_Z below #[Value.ref b] s) (F0 m 1569 ls []) := by
  obtain ⟨hx, hb, hr, hml, hown, hts, hX, hbl, hlocks, hgv⟩ := id C0
  have hown : s.vm.findClass RL = some m.cls := hown
  have hts := fun w h => hts w (wsL_law_in w h)
  have hA : ∀ q : Nat, s.heap.size ≤ q → A q := by rw [hAe]; exact fun _ h => h
  have hbA : ¬ A b := by rw [hAe]; exact Nat.not_le.mpr hbl
  have h10 : τ ≤ 10 := by have h9 : 0 ≤ (σ.1 0 6).toInt ∧ (σ.1 0 6).toInt ≤ 10 := hC.1 0 6; have := hC.2.2; omega
  have hC0 := hC
  have hM0 := hM
  refine lv_aload_n hx hb dL_law_1569 rfl (lv_at hl 2 rfl) ?_
  refine lv_aload_n hx hb dL_law_1570 rfl (lv_at hl 3 rfl) ?_
  refine lv_iload_n hx hb dL_law_1571 rfl (lv_at hl 0 rfl) ?_
  refine lv_iconst (v := nI 1) hx hb dL_law_1572 (by decide) ?_
  refine lv_iadd hx hb dL_law_1573 ?_
  refine va_sld hx hb hX hbl hbA hS (sc_in (k := 1) (by omega) (by omega)) dL_law_1574 ?_
  refine lv_topi (fun a1 ea1 => ?_)
  refine lv_aload_n hx hb dL_law_1575 rfl (lv_at hl 3 rfl) ?_
  refine lv_iload_n hx hb dL_law_1576 rfl (lv_at hl 0 rfl) ?_
  refine lv_iconst (v := nI 2) hx hb dL_law_1577 (by decide) ?_
  refine lv_iadd hx hb dL_law_1578 ?_
  refine va_sld hx hb hX hbl hbA hS (sc_in (k := 2) (by omega) (by omega)) dL_law_1579 ?_
  refine lv_topi (fun a2 ea2 => ?_)
  refine lv_aload_n hx hb dL_law_1580 rfl (lv_at hl 3 rfl) ?_
  refine lv_iload_n hx hb dL_law_1581 rfl (lv_at hl 0 rfl) ?_
  refine lv_iconst (v := nI 3) hx hb dL_law_1582 (by decide) ?_
  refine lv_iadd hx hb dL_law_1583 ?_
  refine va_sld hx hb hX hbl hbA hS (sc_in (k := 3) (by omega) (by omega)) dL_law_1584 ?_
  refine lv_topi (fun a3 ea3 => ?_)
  obtain ⟨⟨r4, σ4⟩, hf4, hq4⟩ := (sX11_names τ σ a1 a2 a3 hC)
  have hPc := tb_lP hP
  have hDc := tb_lD hD
  have hFc := fr_A hDc hS hA
  refine va_calli (va_runV (As := [.int a1, .int a2, .int a3]) (rest := []) ⟨hx, hb, hml, hown, hts⟩ (tX11_names l dC dI cy ad τ (τ + 1) (by omega) σ a1 a2 a3 H.size r4 σ4 hf4) (cwV 3 hts gL_law_X11_names rfl rfl rfl (by decide +kernel) ⟨Nat.le_of_ble_eq_true rfl, Nat.le_of_ble_eq_true rfl⟩) (wp_V hK hN hPc hDc (va_recv hK hPc (ci := 11) (q0 := 0) rfl (wG_of (by omega) (cC_0 _ _ _ _ _)))) rfl rfl hl.1 rfl (lv_room (Nat.le_of_ble_eq_true rfl)) dL_law_1585 ⟨by show cells + 0 ≤ 600000; omega, by show slots + 0 ≤ 7302250; omega⟩) hS (fun q _ h => hFc q h) hFc (fun r9 u9 t9 H1 locs ht hvm hw4 hB hz1 hk1 hS => ?_)
  obtain rfl : r4 = r9 := hw4.symm
  obtain ⟨hP1, hD1⟩ := hB
  rw [ht] at hP1
  obtain ⟨hP, hD⟩ := tb_fj hP hD hk1 hFc hP1 hD1
  generalize H1 = H at hP hS ⊢
  have hC : IvC 0 τ σ4 := by first | exact hq4 | exact hq4.1
  refine lv_pop hx hb dL_law_1588 rfl ?_
  refine lv_aload_n hx hb dL_law_1589 rfl (lv_at hl 1 rfl) ?_
  refine lv_aload_n hx hb dL_law_1590 rfl (lv_at hl 3 rfl) ?_
  refine lv_iload_n hx hb dL_law_1591 rfl (lv_at hl 0 rfl) ?_
  refine lv_iconst (v := nI 1) hx hb dL_law_1592 (by decide) ?_
  refine lv_iadd hx hb dL_law_1593 ?_
  refine va_sld hx hb hX hbl hbA hS (sc_in (k := 1) (by omega) (by omega)) dL_law_1594 ?_
  refine lv_topi (fun a5 ea5 => ?_)
  obtain rfl : a1 = a5 := ea1.trans ea5.symm
  refine lv_aload_n hx hb dL_law_1595 rfl (lv_at hl 3 rfl) ?_
  refine lv_iload_n hx hb dL_law_1596 rfl (lv_at hl 0 rfl) ?_
  refine lv_iconst (v := nI 2) hx hb dL_law_1597 (by decide) ?_
  refine lv_iadd hx hb dL_law_1598 ?_
  refine va_sld hx hb hX hbl hbA hS (sc_in (k := 2) (by omega) (by omega)) dL_law_1599 ?_
  refine lv_topi (fun a6 ea6 => ?_)
  obtain rfl : a2 = a6 := ea2.trans ea6.symm
  refine lv_aload_n hx hb dL_law_1600 rfl (lv_at hl 3 rfl) ?_
  refine lv_iload_n hx hb dL_law_1601 rfl (lv_at hl 0 rfl) ?_
  refine lv_iconst (v := nI 3) hx hb dL_law_1602 (by decide) ?_
  refine lv_iadd hx hb dL_law_1603 ?_
  refine va_sld hx hb hX hbl hbA hS (sc_in (k := 3) (by omega) (by omega)) dL_law_1604 ?_
  refine lv_topi (fun a7 ea7 => ?_)
  obtain rfl : a3 = a7 := ea3.trans ea7.symm
  obtain ⟨⟨r8, ρ8⟩, hf8, hq8⟩ := (sX12_names σm a1 a2 a3 hM)
  have hP := tb_swP hP
  have hD := tb_swD hD
  have hPc := tb_lP hP
  have hDc := tb_lD hD
  have hFc := fr_A hDc hS hA
  refine va_calli (va_runV (As := [.int a1, .int a2, .int a3]) (rest := []) ⟨hx, hb, hml, hown, hts⟩ (tX12_names l dC dI cy adm σm a1 a2 a3 H.size r8 ρ8 hf8) (cwV 3 hts gL_law_X12_names rfl rfl rfl (by decide +kernel) ⟨Nat.le_of_ble_eq_true rfl, Nat.le_of_ble_eq_true rfl⟩) (wp_V hK hN hPc hDc (va_recv hK hPc (ci := 12) (q0 := 0) rfl (wG_of (by omega) rfl))) rfl rfl hl.1 rfl (lv_room (Nat.le_of_ble_eq_true rfl)) dL_law_1605 ⟨by show cells + 0 ≤ 600000; omega, by show slots + 0 ≤ 7302250; omega⟩) hS (fun q _ h => hFc q h) hFc (fun r9 u9 t9 H1 locs ht hvm hw8 hB hz1 hk1 hS => ?_)
  obtain rfl : r8 = r9 := hw8.symm
  obtain ⟨hP1, hD1⟩ := hB
  rw [ht] at hP1
  obtain ⟨hP, hD⟩ := tb_fj hP hD hk1 hFc hP1 hD1
  generalize H1 = H at hP hS ⊢
  have hP := tb_swP hP
  have hD := tb_swD hD
  have hM : IvM 0 ρ8 := by first | exact hq8 | exact hq8.1
  refine lv_pop hx hb dL_law_1608 rfl ?_
  refine lv_goto (tgt := 1635) hx hb dL_law_1609 (by decide) ?_
  exact kk τ ad adm σ4 ρ8 H locs ls _ _ hP hD hS hl hC hM (RelA.fr (a := 5) (b := 5) hR (wfX11_names (m := 5) rfl _ _ _ _ _ (Fr.rf _) _ hf4) (wfX12_names (m := 5) rfl _ _ _ _ (Fr.rf _) _ hf8) rfl rfl) (by omega) (by omega)

set_option maxHeartbeats 4000000 in
set_option maxRecDepth 100000 in
theorem lawc_40 {p : Program} {l : Launch} {e : Env} {s : State} {m : MethodId} {below : List Frame} {meth : Method} {c : Code} {A : Nat → Prop} {b L : Nat} {xs : Nat → Int32} {dC : Nat → ClassId} {dI : Nat → Nat → Nat} {cy : Nat → ClassId} {t : Nat} (C0 : lw_At p s m meth c b L xs) (hL : L ≤ 3072) (hAe : A = fun q : Nat => s.heap.size ≤ q) (hK : va_K (dC, dI) vwCl (tyl cy) s) (hN : NW s) (hZ : va_Z "SeatsRound" "KIND_ABOVE" "[I" (.ref t) A s s.heap) (hT : va_T .int t 7 (fun j => .int (kaI j)) A s s.heap) {i : Nat} (hi : i + 6 ≤ L) {τ : Nat} {ad adm : Nat → Nat} {σ σm : S2} {H : Heap} {locs : List Loc} {ls : Array Slot} {cells slots : Nat} (hP : va_P (dC, dI) vwCl (wG (cC cy ad τ) ad (182 + 6 * (τ + 1)) σ ++ wG (cM cy adm) adm 40 σm) H) (hD : va_D A (wG (cC cy ad τ) ad (182 + 6 * (τ + 1)) σ ++ wG (cM cy adm) adm 40 σm)) (hS : va_S A s.heap H locs) (hl : lv_has ls 4 [(3, .int (nI i)), (2, .ref (adm 0)), (1, .ref (ad 0)), (0, .ref b)]) (hC : IvC 0 τ σ) (hM : IvM 0 σm) (hR : RelL σ σm) (hc : cells ≤ 228 + i) (hs : slots ≤ 23896 + 353 * i) (kk : ∀ (τ : Nat) (ad adm : Nat → Nat) (σ σm : S2) (H : Heap) (locs : List Loc) (ls : Array Slot) (cells slots : Nat), va_P (dC, dI) vwCl (wG (cC cy ad τ) ad (182 + 6 * (τ + 1)) σ ++ wG (cM cy adm) adm 40 σm) H → va_D A (wG (cC cy ad τ) ad (182 + 6 * (τ + 1)) σ ++ wG (cM cy adm) adm 40 σm) → va_S A s.heap H locs → lv_has ls 4 [(3, .int (nI i)), (2, .ref (adm 0)), (1, .ref (ad 0)), (0, .ref b)] → IvC 0 τ σ → IvM 0 σm → RelL σ σm → cells ≤ 228 + (i + 6) → slots ≤ 23896 + 353 * (i + 6) → W p l e room_1 s m #[Value.ref b] below meth c H locs cells slots (lw_Z below #[Value.ref b] s) (F0 m 1635 ls [])) : W p l e room_1 s m #[Value.ref b] below meth c H locs cells slots (lw_Z below #[Value.ref b] s) (F0 m 1612 ls []) := by
  obtain ⟨hx, hb, hr, hml, hown, hts, hX, hbl, hlocks, hgv⟩ := id C0
  have hown : s.vm.findClass RL = some m.cls := hown
  have hts := fun w h => hts w (wsL_law_in w h)
  have hA : ∀ q : Nat, s.heap.size ≤ q → A q := by rw [hAe]; exact fun _ h => h
  have hbA : ¬ A b := by rw [hAe]; exact Nat.not_le.mpr hbl
  have h10 : τ ≤ 10 := by have h9 : 0 ≤ (σ.1 0 6).toInt ∧ (σ.1 0 6).toInt ≤ 10 := hC.1 0 6; have := hC.2.2; omega
  have hC0 := hC
  have hM0 := hM
  refine lv_aload_n hx hb dL_law_1612 rfl (lv_at hl 2 rfl) ?_
  refine lv_aload_n hx hb dL_law_1613 rfl (lv_at hl 3 rfl) ?_
  refine lv_iload_n hx hb dL_law_1614 rfl (lv_at hl 0 rfl) ?_
  refine lv_iconst (v := nI 1) hx hb dL_law_1615 (by decide) ?_
  refine lv_iadd hx hb dL_law_1616 ?_
  refine va_sld hx hb hX hbl hbA hS (sc_in (k := 1) (by omega) (by omega)) dL_law_1617 ?_
  refine lv_topi (fun a1 ea1 => ?_)
  obtain ⟨r2, hf2, hq2⟩ := (sX11_count τ σ a1 hC)
  have hPc := tb_lP hP
  have hDc := tb_lD hD
  have hFc := fr_A hDc hS hA
  refine va_calli (va_runV (As := [.int a1]) (rest := []) ⟨hx, hb, hml, hown, hts⟩ (tX11_count l dC dI cy ad τ (τ + 1) (by omega) σ a1 H.size r2 hf2) (cwV 1 hts gL_law_X11_count rfl rfl rfl (by decide +kernel) ⟨Nat.le_of_ble_eq_true rfl, Nat.le_of_ble_eq_true rfl⟩) (wp_V hK hN hPc hDc (va_recv hK hPc (ci := 11) (q0 := 0) rfl (wG_of (by omega) (cC_0 _ _ _ _ _)))) rfl rfl hl.1 rfl (lv_room (Nat.le_of_ble_eq_true rfl)) dL_law_1618 ⟨by show cells + 0 ≤ 600000; omega, by show slots + 0 ≤ 7302250; omega⟩) hS (fun q _ h => hFc q h) hFc (fun r9 u9 t9 H1 locs ht hvm hw2 hB hz1 hk1 hS => ?_)
  obtain rfl : r2 = r9 := hw2.symm
  obtain ⟨hP1, hD1⟩ := hB
  rw [ht] at hP1
  obtain ⟨hP, hD⟩ := tb_fj hP hD hk1 hFc hP1 hD1
  generalize H1 = H at hP hS ⊢
  refine lv_pop hx hb dL_law_1621 rfl ?_
  refine lv_aload_n hx hb dL_law_1622 rfl (lv_at hl 1 rfl) ?_
  refine lv_aload_n hx hb dL_law_1623 rfl (lv_at hl 3 rfl) ?_
  refine lv_iload_n hx hb dL_law_1624 rfl (lv_at hl 0 rfl) ?_
  refine lv_iconst (v := nI 1) hx hb dL_law_1625 (by decide) ?_
  refine lv_iadd hx hb dL_law_1626 ?_
  refine va_sld hx hb hX hbl hbA hS (sc_in (k := 1) (by omega) (by omega)) dL_law_1627 ?_
  refine lv_topi (fun a3 ea3 => ?_)
  obtain rfl : a1 = a3 := ea1.trans ea3.symm
  obtain ⟨r4, hf4, hq4⟩ := (sX12_count σm a1 hM)
  have hP := tb_swP hP
  have hD := tb_swD hD
  have hPc := tb_lP hP
  have hDc := tb_lD hD
  have hFc := fr_A hDc hS hA
  refine va_calli (va_runV (As := [.int a1]) (rest := []) ⟨hx, hb, hml, hown, hts⟩ (tX12_count l dC dI cy adm σm a1 H.size r4 hf4) (cwV 1 hts gL_law_X12_count rfl rfl rfl (by decide +kernel) ⟨Nat.le_of_ble_eq_true rfl, Nat.le_of_ble_eq_true rfl⟩) (wp_V hK hN hPc hDc (va_recv hK hPc (ci := 12) (q0 := 0) rfl (wG_of (by omega) rfl))) rfl rfl hl.1 rfl (lv_room (Nat.le_of_ble_eq_true rfl)) dL_law_1628 ⟨by show cells + 0 ≤ 600000; omega, by show slots + 0 ≤ 7302250; omega⟩) hS (fun q _ h => hFc q h) hFc (fun r9 u9 t9 H1 locs ht hvm hw4 hB hz1 hk1 hS => ?_)
  obtain rfl : r4 = r9 := hw4.symm
  obtain ⟨hP1, hD1⟩ := hB
  rw [ht] at hP1
  obtain ⟨hP, hD⟩ := tb_fj hP hD hk1 hFc hP1 hD1
  generalize H1 = H at hP hS ⊢
  have hP := tb_swP hP
  have hD := tb_swD hD
  refine lv_pop hx hb dL_law_1631 rfl ?_
  refine lv_goto (tgt := 1635) hx hb dL_law_1632 (by decide) ?_
  exact kk τ ad adm σ σm H locs ls _ _ hP hD hS hl hC hM (RelA.fr (a := 0) (b := 0) hR (Fr.rf _) (Fr.rf _) rfl rfl) (by omega) (by omega)
