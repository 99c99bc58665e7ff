set_option maxHeartbeats 4000000 in
set_option maxRecDepth 100000 in
theorem lawc_0 {p : Program} {l : Launch} {e : Env} {s : State} {m : MethodId} {below : List Frame} {meth : Method} {c : Code} {A : Nat → Prop} {b L : Nat} {xs : Nat → Int32} {dC : Nat → ClassId} {dI : Nat → Nat → Nat} {cy : Nat → ClassId} {t : Nat} (C0 : lw_At p s m meth c b L xs) (hL : L ≤ 3072) (hAe : A = fun q : Nat => s.heap.size ≤ q) (hK : va_K (dC, dI) vwCl (tyl cy) s) (hN : NW s) (hZ : va_Z "SeatsRound" "KIND_ABOVE" "[I" (.ref t) A s s.heap) (hT : va_T .int t 7 (fun j => .int (kaI j)) A s s.heap) {i : Nat} (hi : i + 6 ≤ L) {τ : Nat} {ad adm : Nat → Nat} {σ σm : S2} {H : Heap} {locs : List Loc} {ls : Array Slot} {cells slots : Nat} (hP : va_P (dC, dI) vwCl (wG (cC cy ad τ) ad (182 + 6 * (τ + 1)) σ ++ wG (cM cy adm) adm 40 σm) H) (hD : va_D A (wG (cC cy ad τ) ad (182 + 6 * (τ + 1)) σ ++ wG (cM cy adm) adm 40 σm)) (hS : va_S A s.heap H locs) (hl : lv_has ls 4 [(3, .int (nI i)), (2, .ref (adm 0)), (1, .ref (ad 0)), (0, .ref b)]) (hC : IvC 0 τ σ) (hM : IvM 0 σm) (hR : RelL σ σm) (hc : cells ≤ 228 + i) (hs : slots ≤ 23896 + 353 * i) (kk : ∀ (τ : Nat) (ad adm : Nat → Nat) (σ σm : S2) (H : Heap) (locs : List Loc) (ls : Array Slot) (cells slots : Nat), va_P (dC, dI) vwCl (wG (cC cy ad τ) ad (182 + 6 * (τ + 1)) σ ++ wG (cM cy adm) adm 40 σm) H → va_D A (wG (cC cy ad τ) ad (182 + 6 * (τ + 1)) σ ++ wG (cM cy adm) adm 40 σm) → va_S A s.heap H locs → lv_has ls 4 [(3, .int (nI i)), (2, .ref (adm 0)), (1, .ref (ad 0)), (0, .ref b)] → IvC 0 τ σ → IvM 0 σm → RelL σ σm → cells ≤ 228 + (i + 6) → slots ≤ 23896 + 353 * (i + 6) → W p l e room_1 s m #[Value.ref b] below meth c H locs cells slots (lw_Z below #[Value.ref b] s) (F0 m 1635 ls [])) : W p l e room_1 s m #[Value.ref b] below meth c H locs cells slots (lw_Z below #[Value.ref b] s) (F0 m 212 ls []) := by
  obtain ⟨hx, hb, hr, hml, hown, hts, hX, hbl, hlocks, hgv⟩ := id C0
  have hown : s.vm.findClass RL = some m.cls := hown
  have hts := fun w h => hts w (wsL_law_in w h)
  have hA : ∀ q : Nat, s.heap.size ≤ q → A q := by rw [hAe]; exact fun _ h => h
  have hbA : ¬ A b := by rw [hAe]; exact Nat.not_le.mpr hbl
  have h10 : τ ≤ 10 := by have h9 : 0 ≤ (σ.1 0 6).toInt ∧ (σ.1 0 6).toInt ≤ 10 := hC.1 0 6; have := hC.2.2; omega
  have hC0 := hC
  have hM0 := hM
  refine lv_aload_n hx hb dL_law_212 rfl (lv_at hl 2 rfl) ?_
  refine lv_aload_n hx hb dL_law_213 rfl (lv_at hl 3 rfl) ?_
  refine lv_iload_n hx hb dL_law_214 rfl (lv_at hl 0 rfl) ?_
  refine lv_iconst (v := nI 1) hx hb dL_law_215 (by decide) ?_
  refine lv_iadd hx hb dL_law_216 ?_
  refine va_sld hx hb hX hbl hbA hS (sc_in (k := 1) (by omega) (by omega)) dL_law_217 ?_
  refine lv_topi (fun a1 ea1 => ?_)
  refine lv_aload_n hx hb dL_law_218 rfl (lv_at hl 3 rfl) ?_
  refine lv_iload_n hx hb dL_law_219 rfl (lv_at hl 0 rfl) ?_
  refine lv_iconst (v := nI 2) hx hb dL_law_220 (by decide) ?_
  refine lv_iadd hx hb dL_law_221 ?_
  refine va_sld hx hb hX hbl hbA hS (sc_in (k := 2) (by omega) (by omega)) dL_law_222 ?_
  refine lv_topi (fun a2 ea2 => ?_)
  obtain ⟨⟨r3, σ3⟩, hf3, hq3⟩ := (sX11_feed τ σ a1 a2 hC)
  have hPc := tb_lP hP
  have hDc := tb_lD hD
  have hFc := fr_A hDc hS hA
  refine va_calli (va_runV (As := [.int a1, .int a2]) (rest := []) ⟨hx, hb, hml, hown, hts⟩ (tX11_feed l dC dI cy ad τ (τ + 1) (by omega) σ a1 a2 H.size r3 σ3 hf3) (cwV 2 hts gL_law_X11_feed rfl rfl rfl (by decide +kernel) ⟨Nat.le_of_ble_eq_true rfl, Nat.le_of_ble_eq_true rfl⟩) (wp_V hK hN hPc hDc (va_recv hK hPc (ci := 11) (q0 := 0) rfl (wG_of (by omega) (cC_0 _ _ _ _ _)))) rfl rfl hl.1 rfl (lv_room (Nat.le_of_ble_eq_true rfl)) dL_law_223 ⟨by show cells + 0 ≤ 600000; omega, by show slots + 0 ≤ 7302250; omega⟩) hS (fun q _ h => hFc q h) hFc (fun r9 u9 t9 H1 locs ht hvm hw3 hB hz1 hk1 hS => ?_)
  obtain rfl : r3 = r9 := hw3.symm
  obtain ⟨hP1, hD1⟩ := hB
  rw [ht] at hP1
  obtain ⟨hP, hD⟩ := tb_fj hP hD hk1 hFc hP1 hD1
  generalize H1 = H at hP hS ⊢
  have hC : IvC 0 τ σ3 := by first | exact hq3 | exact hq3.1
  refine lv_pop hx hb dL_law_226 rfl ?_
  refine lv_aload_n hx hb dL_law_227 rfl (lv_at hl 1 rfl) ?_
  refine lv_aload_n hx hb dL_law_228 rfl (lv_at hl 3 rfl) ?_
  refine lv_iload_n hx hb dL_law_229 rfl (lv_at hl 0 rfl) ?_
  refine lv_iconst (v := nI 1) hx hb dL_law_230 (by decide) ?_
  refine lv_iadd hx hb dL_law_231 ?_
  refine va_sld hx hb hX hbl hbA hS (sc_in (k := 1) (by omega) (by omega)) dL_law_232 ?_
  refine lv_topi (fun a4 ea4 => ?_)
  obtain rfl : a1 = a4 := ea1.trans ea4.symm
  refine lv_aload_n hx hb dL_law_233 rfl (lv_at hl 3 rfl) ?_
  refine lv_iload_n hx hb dL_law_234 rfl (lv_at hl 0 rfl) ?_
  refine lv_iconst (v := nI 2) hx hb dL_law_235 (by decide) ?_
  refine lv_iadd hx hb dL_law_236 ?_
  refine va_sld hx hb hX hbl hbA hS (sc_in (k := 2) (by omega) (by omega)) dL_law_237 ?_
  refine lv_topi (fun a5 ea5 => ?_)
  obtain rfl : a2 = a5 := ea2.trans ea5.symm
  obtain ⟨⟨r6, ρ6⟩, hf6, hq6⟩ := (sX12_feed σm a1 a2 hM)
  have hP := tb_swP hP
  have hD := tb_swD hD
  have hPc := tb_lP hP
  have hDc := tb_lD hD
  have hFc := fr_A hDc hS hA
  refine va_calli (va_runV (As := [.int a1, .int a2]) (rest := []) ⟨hx, hb, hml, hown, hts⟩ (tX12_feed l dC dI cy adm σm a1 a2 H.size r6 ρ6 hf6) (cwV 2 hts gL_law_X12_feed rfl rfl rfl (by decide +kernel) ⟨Nat.le_of_ble_eq_true rfl, Nat.le_of_ble_eq_true rfl⟩) (wp_V hK hN hPc hDc (va_recv hK hPc (ci := 12) (q0 := 0) rfl (wG_of (by omega) rfl))) rfl rfl hl.1 rfl (lv_room (Nat.le_of_ble_eq_true rfl)) dL_law_238 ⟨by show cells + 0 ≤ 600000; omega, by show slots + 0 ≤ 7302250; omega⟩) hS (fun q _ h => hFc q h) hFc (fun r9 u9 t9 H1 locs ht hvm hw6 hB hz1 hk1 hS => ?_)
  obtain rfl : r6 = r9 := hw6.symm
  obtain ⟨hP1, hD1⟩ := hB
  rw [ht] at hP1
  obtain ⟨hP, hD⟩ := tb_fj hP hD hk1 hFc hP1 hD1
  generalize H1 = H at hP hS ⊢
  have hP := tb_swP hP
  have hD := tb_swD hD
  have hM : IvM 0 ρ6 := by first | exact hq6 | exact hq6.1
  refine lv_pop hx hb dL_law_241 rfl ?_
  refine lv_goto (tgt := 1635) hx hb dL_law_242 (by decide) ?_
  exact kk τ ad adm σ3 ρ6 H locs ls _ _ hP hD hS hl hC hM (RelA.fr (a := 2) (b := 2) hR (wfX11_feed (m := 2) rfl _ _ _ _ (Fr.rf _) _ hf3) (wfX12_feed (m := 2) rfl _ _ _ (Fr.rf _) _ hf6) rfl rfl) (by omega) (by omega)

set_option maxHeartbeats 4000000 in
set_option maxRecDepth 100000 in
theorem lawc_1 {p : Program} {l : Launch} {e : Env} {s : State} {m : MethodId} {below : List Frame} {meth : Method} {c : Code} {A : Nat → Prop} {b L : Nat} {xs : Nat → Int32} {dC : Nat → ClassId} {dI : Nat → Nat → Nat} {cy : Nat → ClassId} {t : Nat} (C0 : lw_At p s m meth c b L xs) (hL : L ≤ 3072) (hAe : A = fun q : Nat => s.heap.size ≤ q) (hK : va_K (dC, dI) vwCl (tyl cy) s) (hN : NW s) (hZ : va_Z "SeatsRound" "KIND_ABOVE" "[I" (.ref t) A s s.heap) (hT : va_T .int t 7 (fun j => .int (kaI j)) A s s.heap) {i : Nat} (hi : i + 6 ≤ L) {τ : Nat} {ad adm : Nat → Nat} {σ σm : S2} {H : Heap} {locs : List Loc} {ls : Array Slot} {cells slots : Nat} (hP : va_P (dC, dI) vwCl (wG (cC cy ad τ) ad (182 + 6 * (τ + 1)) σ ++ wG (cM cy adm) adm 40 σm) H) (hD : va_D A (wG (cC cy ad τ) ad (182 + 6 * (τ + 1)) σ ++ wG (cM cy adm) adm 40 σm)) (hS : va_S A s.heap H locs) (hl : lv_has ls 4 [(3, .int (nI i)), (2, .ref (adm 0)), (1, .ref (ad 0)), (0, .ref b)]) (hC : IvC 0 τ σ) (hM : IvM 0 σm) (hR : RelL σ σm) (hc : cells ≤ 228 + i) (hs : slots ≤ 23896 + 353 * i) (kk : ∀ (τ : Nat) (ad adm : Nat → Nat) (σ σm : S2) (H : Heap) (locs : List Loc) (ls : Array Slot) (cells slots : Nat), va_P (dC, dI) vwCl (wG (cC cy ad τ) ad (182 + 6 * (τ + 1)) σ ++ wG (cM cy adm) adm 40 σm) H → va_D A (wG (cC cy ad τ) ad (182 + 6 * (τ + 1)) σ ++ wG (cM cy adm) adm 40 σm) → va_S A s.heap H locs → lv_has ls 4 [(3, .int (nI i)), (2, .ref (adm 0)), (1, .ref (ad 0)), (0, .ref b)] → IvC 0 τ σ → IvM 0 σm → RelL σ σm → cells ≤ 228 + (i + 6) → slots ≤ 23896 + 353 * (i + 6) → W p l e room_1 s m #[Value.ref b] below meth c H locs cells slots (lw_Z below #[Value.ref b] s) (F0 m 1635 ls [])) : W p l e room_1 s m #[Value.ref b] below meth c H locs cells slots (lw_Z below #[Value.ref b] s) (F0 m 245 ls []) := by
  obtain ⟨hx, hb, hr, hml, hown, hts, hX, hbl, hlocks, hgv⟩ := id C0
  have hown : s.vm.findClass RL = some m.cls := hown
  have hts := fun w h => hts w (wsL_law_in w h)
  have hA : ∀ q : Nat, s.heap.size ≤ q → A q := by rw [hAe]; exact fun _ h => h
  have hbA : ¬ A b := by rw [hAe]; exact Nat.not_le.mpr hbl
  have h10 : τ ≤ 10 := by have h9 : 0 ≤ (σ.1 0 6).toInt ∧ (σ.1 0 6).toInt ≤ 10 := hC.1 0 6; have := hC.2.2; omega
  have hC0 := hC
  have hM0 := hM
  refine lv_aload_n hx hb dL_law_245 rfl (lv_at hl 2 rfl) ?_
  obtain ⟨⟨r1, σ1⟩, hf1, hq1⟩ := (sX11_name τ σ hC)
  have hPc := tb_lP hP
  have hDc := tb_lD hD
  have hFc := fr_A hDc hS hA
  refine va_calli (va_runV (As := []) (rest := []) ⟨hx, hb, hml, hown, hts⟩ (tX11_name l dC dI cy ad τ (τ + 1) (by omega) σ H.size r1 σ1 hf1) (cwV 0 hts gL_law_X11_name rfl rfl rfl (by decide +kernel) ⟨Nat.le_of_ble_eq_true rfl, Nat.le_of_ble_eq_true rfl⟩) (wp_V hK hN hPc hDc (va_recv hK hPc (ci := 11) (q0 := 0) rfl (wG_of (by omega) (cC_0 _ _ _ _ _)))) rfl rfl hl.1 rfl (lv_room (Nat.le_of_ble_eq_true rfl)) dL_law_246 ⟨by show cells + 0 ≤ 600000; omega, by show slots + 0 ≤ 7302250; omega⟩) hS (fun q _ h => hFc q h) hFc (fun r9 u9 t9 H1 locs ht hvm hw1 hB hz1 hk1 hS => ?_)
  obtain rfl : r1 = r9 := hw1.symm
  obtain ⟨hP1, hD1⟩ := hB
  rw [ht] at hP1
  obtain ⟨hP, hD⟩ := tb_fj hP hD hk1 hFc hP1 hD1
  generalize H1 = H at hP hS ⊢
  have hC : IvC 0 τ σ1 := by first | exact hq1 | exact hq1.1
  refine lv_pop hx hb dL_law_249 rfl ?_
  refine lv_aload_n hx hb dL_law_250 rfl (lv_at hl 1 rfl) ?_
  obtain ⟨⟨r2, ρ2⟩, hf2, hq2⟩ := (sX12_name σm hM)
  have hP := tb_swP hP
  have hD := tb_swD hD
  have hPc := tb_lP hP
  have hDc := tb_lD hD
  have hFc := fr_A hDc hS hA
  refine va_calli (va_runV (As := []) (rest := []) ⟨hx, hb, hml, hown, hts⟩ (tX12_name l dC dI cy adm σm H.size r2 ρ2 hf2) (cwV 0 hts gL_law_X12_name rfl rfl rfl (by decide +kernel) ⟨Nat.le_of_ble_eq_true rfl, Nat.le_of_ble_eq_true rfl⟩) (wp_V hK hN hPc hDc (va_recv hK hPc (ci := 12) (q0 := 0) rfl (wG_of (by omega) rfl))) rfl rfl hl.1 rfl (lv_room (Nat.le_of_ble_eq_true rfl)) dL_law_251 ⟨by show cells + 0 ≤ 600000; omega, by show slots + 0 ≤ 7302250; omega⟩) hS (fun q _ h => hFc q h) hFc (fun r9 u9 t9 H1 locs ht hvm hw2 hB hz1 hk1 hS => ?_)
  obtain rfl : r2 = r9 := hw2.symm
  obtain ⟨hP1, hD1⟩ := hB
  rw [ht] at hP1
  obtain ⟨hP, hD⟩ := tb_fj hP hD hk1 hFc hP1 hD1
  generalize H1 = H at hP hS ⊢
  have hP := tb_swP hP
  have hD := tb_swD hD
  have hM : IvM 0 ρ2 := by first | exact hq2 | exact hq2.1
  refine lv_pop hx hb dL_law_254 rfl ?_
  refine lv_goto (tgt := 1635) hx hb dL_law_255 (by decide) ?_
  exact kk τ ad adm σ1 ρ2 H locs ls _ _ hP hD hS hl hC hM (RelA.fr (a := 6) (b := 7) hR (wfX11_name (m := 6) rfl _ _ (Fr.rf _) _ hf1) (wfX12_name (m := 7) rfl _ (Fr.rf _) _ hf2) rfl rfl) (by omega) (by omega)

set_option maxHeartbeats 4000000 in
set_option maxRecDepth 100000 in
theorem lawc_2 {p : Program} {l : Launch} {e : Env} {s : State} {m : MethodId} {below : List Frame} {meth : Method} {c : Code} {A : Nat → Prop} {b L : Nat} {xs : Nat → Int32} {dC : Nat → ClassId} {dI : Nat → Nat → Nat} {cy : Nat → ClassId} {t : Nat} (C0 : lw_At p s m meth c b L xs) (hL : L ≤ 3072) (hAe : A = fun q : Nat => s.heap.size ≤ q) (hK : va_K (dC, dI) vwCl (tyl cy) s) (hN : NW s) (hZ : va_Z "SeatsRound" "KIND_ABOVE" "[I" (.ref t) A s s.heap) (hT : va_T .int t 7 (fun j => .int (kaI j)) A s s.heap) {i : Nat} (hi : i + 6 ≤ L) {τ : Nat} {ad adm : Nat → Nat} {σ σm : S2} {H : Heap} {locs : List Loc} {ls : Array Slot} {cells slots : Nat} (hP : va_P (dC, dI) vwCl (wG (cC cy ad τ) ad (182 + 6 * (τ + 1)) σ ++ wG (cM cy adm) adm 40 σm) H) (hD : va_D A (wG (cC cy ad τ) ad (182 + 6 * (τ + 1)) σ ++ wG (cM cy adm) adm 40 σm)) (hS : va_S A s.heap H locs) (hl : lv_has ls 4 [(3, .int (nI i)), (2, .ref (adm 0)), (1, .ref (ad 0)), (0, .ref b)]) (hC : IvC 0 τ σ) (hM : IvM 0 σm) (hR : RelL σ σm) (hc : cells ≤ 228 + i) (hs : slots ≤ 23896 + 353 * i) (kk : ∀ (τ : Nat) (ad adm : Nat → Nat) (σ σm : S2) (H : Heap) (locs : List Loc) (ls : Array Slot) (cells slots : Nat), va_P (dC, dI) vwCl (wG (cC cy ad τ) ad (182 + 6 * (τ + 1)) σ ++ wG (cM cy adm) adm 40 σm) H → va_D A (wG (cC cy ad τ) ad (182 + 6 * (τ + 1)) σ ++ wG (cM cy adm) adm 40 σm) → va_S A s.heap H locs → lv_has ls 4 [(3, .int (nI i)), (2, .ref (adm 0)), (1, .ref (ad 0)), (0, .ref b)] → IvC 0 τ σ → IvM 0 σm → RelL σ σm → cells ≤ 228 + (i + 6) → slots ≤ 23896 + 353 * (i + 6) → W p l e room_1 s m #[Value.ref b] below meth c H locs cells slots (lw_Z below #[Value.ref b] s) (F0 m 1635 ls [])) : W p l e room_1 s m #[Value.ref b] below meth c H locs cells slots (lw_Z below #[Value.ref b] s) (F0 m 258 ls []) := by
  obtain ⟨hx, hb, hr, hml, hown, hts, hX, hbl, hlocks, hgv⟩ := id C0
  have hown : s.vm.findClass RL = some m.cls := hown
  have hts := fun w h => hts w (wsL_law_in w h)
  have hA : ∀ q : Nat, s.heap.size ≤ q → A q := by rw [hAe]; exact fun _ h => h
  have hbA : ¬ A b := by rw [hAe]; exact Nat.not_le.mpr hbl
  have h10 : τ ≤ 10 := by have h9 : 0 ≤ (σ.1 0 6).toInt ∧ (σ.1 0 6).toInt ≤ 10 := hC.1 0 6; have := hC.2.2; omega
  have hC0 := hC
  have hM0 := hM
  refine lv_aload_n hx hb dL_law_258 rfl (lv_at hl 2 rfl) ?_
  refine lv_aload_n hx hb dL_law_259 rfl (lv_at hl 3 rfl) ?_
  refine lv_iload_n hx hb dL_law_260 rfl (lv_at hl 0 rfl) ?_
  refine lv_iconst (v := nI 1) hx hb dL_law_261 (by decide) ?_
  refine lv_iadd hx hb dL_law_262 ?_
  refine va_sld hx hb hX hbl hbA hS (sc_in (k := 1) (by omega) (by omega)) dL_law_263 ?_
  refine lv_topi (fun a1 ea1 => ?_)
  refine lv_aload_n hx hb dL_law_264 rfl (lv_at hl 3 rfl) ?_
  refine lv_iload_n hx hb dL_law_265 rfl (lv_at hl 0 rfl) ?_
  refine lv_iconst (v := nI 2) hx hb dL_law_266 (by decide) ?_
  refine lv_iadd hx hb dL_law_267 ?_
  refine va_sld hx hb hX hbl hbA hS (sc_in (k := 2) (by omega) (by omega)) dL_law_268 ?_
  refine lv_topi (fun a2 ea2 => ?_)
  obtain ⟨r3, hf3, hq3⟩ := (sX11_number τ σ a1 a2 hC)
  have hPc := tb_lP hP
  have hDc := tb_lD hD
  have hFc := fr_A hDc hS hA
  refine va_calli (va_runV (As := [.int a1, .int a2]) (rest := []) ⟨hx, hb, hml, hown, hts⟩ (tX11_number l dC dI cy ad τ (τ + 1) (by omega) σ a1 a2 H.size r3 hf3) (cwV 2 hts gL_law_X11_number rfl rfl rfl (by decide +kernel) ⟨Nat.le_of_ble_eq_true rfl, Nat.le_of_ble_eq_true rfl⟩) (wp_V hK hN hPc hDc (va_recv hK hPc (ci := 11) (q0 := 0) rfl (wG_of (by omega) (cC_0 _ _ _ _ _)))) rfl rfl hl.1 rfl (lv_room (Nat.le_of_ble_eq_true rfl)) dL_law_269 ⟨by show cells + 0 ≤ 600000; omega, by show slots + 0 ≤ 7302250; omega⟩) hS (fun q _ h => hFc q h) hFc (fun r9 u9 t9 H1 locs ht hvm hw3 hB hz1 hk1 hS => ?_)
  obtain rfl : r3 = r9 := hw3.symm
  obtain ⟨hP1, hD1⟩ := hB
  rw [ht] at hP1
  obtain ⟨hP, hD⟩ := tb_fj hP hD hk1 hFc hP1 hD1
  generalize H1 = H at hP hS ⊢
  refine lv_pop hx hb dL_law_272 rfl ?_
  refine lv_aload_n hx hb dL_law_273 rfl (lv_at hl 1 rfl) ?_
  refine lv_aload_n hx hb dL_law_274 rfl (lv_at hl 3 rfl) ?_
  refine lv_iload_n hx hb dL_law_275 rfl (lv_at hl 0 rfl) ?_
  refine lv_iconst (v := nI 1) hx hb dL_law_276 (by decide) ?_
  refine lv_iadd hx hb dL_law_277 ?_
  refine va_sld hx hb hX hbl hbA hS (sc_in (k := 1) (by omega) (by omega)) dL_law_278 ?_
  refine lv_topi (fun a4 ea4 => ?_)
  obtain rfl : a1 = a4 := ea1.trans ea4.symm
  refine lv_aload_n hx hb dL_law_279 rfl (lv_at hl 3 rfl) ?_
  refine lv_iload_n hx hb dL_law_280 rfl (lv_at hl 0 rfl) ?_
  refine lv_iconst (v := nI 2) hx hb dL_law_281 (by decide) ?_
  refine lv_iadd hx hb dL_law_282 ?_
  refine va_sld hx hb hX hbl hbA hS (sc_in (k := 2) (by omega) (by omega)) dL_law_283 ?_
  refine lv_topi (fun a5 ea5 => ?_)
  obtain rfl : a2 = a5 := ea2.trans ea5.symm
  obtain ⟨r6, hf6, hq6⟩ := (sX12_number σm a1 a2 hM)
  have hP := tb_swP hP
  have hD := tb_swD hD
  have hPc := tb_lP hP
  have hDc := tb_lD hD
  have hFc := fr_A hDc hS hA
  refine va_calli (va_runV (As := [.int a1, .int a2]) (rest := []) ⟨hx, hb, hml, hown, hts⟩ (tX12_number l dC dI cy adm σm a1 a2 H.size r6 hf6) (cwV 2 hts gL_law_X12_number rfl rfl rfl (by decide +kernel) ⟨Nat.le_of_ble_eq_true rfl, Nat.le_of_ble_eq_true rfl⟩) (wp_V hK hN hPc hDc (va_recv hK hPc (ci := 12) (q0 := 0) rfl (wG_of (by omega) rfl))) rfl rfl hl.1 rfl (lv_room (Nat.le_of_ble_eq_true rfl)) dL_law_284 ⟨by show cells + 0 ≤ 600000; omega, by show slots + 0 ≤ 7302250; omega⟩) hS (fun q _ h => hFc q h) hFc (fun r9 u9 t9 H1 locs ht hvm hw6 hB hz1 hk1 hS => ?_)
  obtain rfl : r6 = r9 := hw6.symm
  obtain ⟨hP1, hD1⟩ := hB
  rw [ht] at hP1
  obtain ⟨hP, hD⟩ := tb_fj hP hD hk1 hFc hP1 hD1
  generalize H1 = H at hP hS ⊢
  have hP := tb_swP hP
  have hD := tb_swD hD
  refine lv_pop hx hb dL_law_287 rfl ?_
  refine lv_goto (tgt := 1635) hx hb dL_law_288 (by decide) ?_
  exact kk τ ad adm σ σm H locs ls _ _ hP hD hS hl hC hM (RelA.fr (a := 0) (b := 0) hR (Fr.rf _) (Fr.rf _) rfl rfl) (by omega) (by omega)

set_option maxHeartbeats 4000000 in
set_option maxRecDepth 100000 in
theorem lawc_3 {p : Program} {l : Launch} {e : Env} {s : State} {m : MethodId} {below : List Frame} {meth : Method} {c : Code} {A : Nat → Prop} {b L : Nat} {xs : Nat → Int32} {dC : Nat → ClassId} {dI : Nat → Nat → Nat} {cy : Nat → ClassId} {t : Nat} (C0 : lw_At p s m meth c b L xs) (hL : L ≤ 3072) (hAe : A = fun q : Nat => s.heap.size ≤ q) (hK : va_K (dC, dI) vwCl (tyl cy) s) (hN : NW s) (hZ : va_Z "SeatsRound" "KIND_ABOVE" "[I" (.ref t) A s s.heap) (hT : va_T .int t 7 (fun j => .int (kaI j)) A s s.heap) {i : Nat} (hi : i + 6 ≤ L) {τ : Nat} {ad adm : Nat → Nat} {σ σm : S2} {H : Heap} {locs : List Loc} {ls : Array Slot} {cells slots : Nat} (hP : va_P (dC, dI) vwCl (wG (cC cy ad τ) ad (182 + 6 * (τ + 1)) σ ++ wG (cM cy adm) adm 40 σm) H) (hD : va_D A (wG (cC cy ad τ) ad (182 + 6 * (τ + 1)) σ ++ wG (cM cy adm) adm 40 σm)) (hS : va_S A s.heap H locs) (hl : lv_has ls 4 [(3, .int (nI i)), (2, .ref (adm 0)), (1, .ref (ad 0)), (0, .ref b)]) (hC : IvC 0 τ σ) (hM : IvM 0 σm) (hR : RelL σ σm) (hc : cells ≤ 228 + i) (hs : slots ≤ 23896 + 353 * i) (kk : ∀ (τ : Nat) (ad adm : Nat → Nat) (σ σm : S2) (H : Heap) (locs : List Loc) (ls : Array Slot) (cells slots : Nat), va_P (dC, dI) vwCl (wG (cC cy ad τ) ad (182 + 6 * (τ + 1)) σ ++ wG (cM cy adm) adm 40 σm) H → va_D A (wG (cC cy ad τ) ad (182 + 6 * (τ + 1)) σ ++ wG (cM cy adm) adm 40 σm) → va_S A s.heap H locs → lv_has ls 4 [(3, .int (nI i)), (2, .ref (adm 0)), (1, .ref (ad 0)), (0, .ref b)] → IvC 0 τ σ → IvM 0 σm → RelL σ σm → cells ≤ 228 + (i + 6) → slots ≤ 23896 + 353 * (i + 6) → W p l e room_1 s m #[Value.ref b] below meth c H locs cells slots (lw_Z below #[Value.ref b] s) (F0 m 1635 ls [])) : W p l e room_1 s m #[Value.ref b] below meth c H locs cells slots (lw_Z below #[Value.ref b] s) (F0 m 291 ls []) := by
  obtain ⟨hx, hb, hr, hml, hown, hts, hX, hbl, hlocks, hgv⟩ := id C0
  have hown : s.vm.findClass RL = some m.cls := hown
  have hts := fun w h => hts w (wsL_law_in w h)
  have hA : ∀ q : Nat, s.heap.size ≤ q → A q := by rw [hAe]; exact fun _ h => h
  have hbA : ¬ A b := by rw [hAe]; exact Nat.not_le.mpr hbl
  have h10 : τ ≤ 10 := by have h9 : 0 ≤ (σ.1 0 6).toInt ∧ (σ.1 0 6).toInt ≤ 10 := hC.1 0 6; have := hC.2.2; omega
  have hC0 := hC
  have hM0 := hM
  refine lv_aload_n hx hb dL_law_291 rfl (lv_at hl 2 rfl) ?_
  refine lv_aload_n hx hb dL_law_292 rfl (lv_at hl 3 rfl) ?_
  refine lv_iload_n hx hb dL_law_293 rfl (lv_at hl 0 rfl) ?_
  refine lv_iconst (v := nI 1) hx hb dL_law_294 (by decide) ?_
  refine lv_iadd hx hb dL_law_295 ?_
  refine va_sld hx hb hX hbl hbA hS (sc_in (k := 1) (by omega) (by omega)) dL_law_296 ?_
  refine lv_topi (fun a1 ea1 => ?_)
  refine lv_aload_n hx hb dL_law_297 rfl (lv_at hl 3 rfl) ?_
  refine lv_iload_n hx hb dL_law_298 rfl (lv_at hl 0 rfl) ?_
  refine lv_iconst (v := nI 2) hx hb dL_law_299 (by decide) ?_
  refine lv_iadd hx hb dL_law_300 ?_
  refine va_sld hx hb hX hbl hbA hS (sc_in (k := 2) (by omega) (by omega)) dL_law_301 ?_
  refine lv_topi (fun a2 ea2 => ?_)
  obtain ⟨⟨r3, σ3⟩, hf3, hq3⟩ := (sX11_keeper τ σ a1 a2 hC)
  have hPc := tb_lP hP
  have hDc := tb_lD hD
  have hFc := fr_A hDc hS hA
  refine va_calli (va_runV (As := [.int a1, .int a2]) (rest := []) ⟨hx, hb, hml, hown, hts⟩ (tX11_keeper l dC dI cy ad τ (τ + 1) (by omega) σ a1 a2 H.size r3 σ3 hf3) (cwV 2 hts gL_law_X11_keeper rfl rfl rfl (by decide +kernel) ⟨Nat.le_of_ble_eq_true rfl, Nat.le_of_ble_eq_true rfl⟩) (wp_V hK hN hPc hDc (va_recv hK hPc (ci := 11) (q0 := 0) rfl (wG_of (by omega) (cC_0 _ _ _ _ _)))) rfl rfl hl.1 rfl (lv_room (Nat.le_of_ble_eq_true rfl)) dL_law_302 ⟨by show cells + 0 ≤ 600000; omega, by show slots + 0 ≤ 7302250; omega⟩) hS (fun q _ h => hFc q h) hFc (fun r9 u9 t9 H1 locs ht hvm hw3 hB hz1 hk1 hS => ?_)
  obtain rfl : r3 = r9 := hw3.symm
  obtain ⟨hP1, hD1⟩ := hB
  rw [ht] at hP1
  obtain ⟨hP, hD⟩ := tb_fj hP hD hk1 hFc hP1 hD1
  generalize H1 = H at hP hS ⊢
  have hC : IvC 0 τ σ3 := by first | exact hq3 | exact hq3.1
  refine lv_pop hx hb dL_law_305 rfl ?_
  refine lv_aload_n hx hb dL_law_306 rfl (lv_at hl 1 rfl) ?_
  refine lv_aload_n hx hb dL_law_307 rfl (lv_at hl 3 rfl) ?_
  refine lv_iload_n hx hb dL_law_308 rfl (lv_at hl 0 rfl) ?_
  refine lv_iconst (v := nI 1) hx hb dL_law_309 (by decide) ?_
  refine lv_iadd hx hb dL_law_310 ?_
  refine va_sld hx hb hX hbl hbA hS (sc_in (k := 1) (by omega) (by omega)) dL_law_311 ?_
  refine lv_topi (fun a4 ea4 => ?_)
  obtain rfl : a1 = a4 := ea1.trans ea4.symm
  refine lv_aload_n hx hb dL_law_312 rfl (lv_at hl 3 rfl) ?_
  refine lv_iload_n hx hb dL_law_313 rfl (lv_at hl 0 rfl) ?_
  refine lv_iconst (v := nI 2) hx hb dL_law_314 (by decide) ?_
  refine lv_iadd hx hb dL_law_315 ?_
  refine va_sld hx hb hX hbl hbA hS (sc_in (k := 2) (by omega) (by omega)) dL_law_316 ?_
  refine lv_topi (fun a5 ea5 => ?_)
  obtain rfl : a2 = a5 := ea2.trans ea5.symm
  obtain ⟨⟨r6, ρ6⟩, hf6, hq6⟩ := (sX12_keeper σm a1 a2 hM)
  have hP := tb_swP hP
  have hD := tb_swD hD
  have hPc := tb_lP hP
  have hDc := tb_lD hD
  have hFc := fr_A hDc hS hA
  refine va_calli (va_runV (As := [.int a1, .int a2]) (rest := []) ⟨hx, hb, hml, hown, hts⟩ (tX12_keeper l dC dI cy adm σm a1 a2 H.size r6 ρ6 hf6) (cwV 2 hts gL_law_X12_keeper rfl rfl rfl (by decide +kernel) ⟨Nat.le_of_ble_eq_true rfl, Nat.le_of_ble_eq_true rfl⟩) (wp_V hK hN hPc hDc (va_recv hK hPc (ci := 12) (q0 := 0) rfl (wG_of (by omega) rfl))) rfl rfl hl.1 rfl (lv_room (Nat.le_of_ble_eq_true rfl)) dL_law_317 ⟨by show cells + 0 ≤ 600000; omega, by show slots + 0 ≤ 7302250; omega⟩) hS (fun q _ h => hFc q h) hFc (fun r9 u9 t9 H1 locs ht hvm hw6 hB hz1 hk1 hS => ?_)
  obtain rfl : r6 = r9 := hw6.symm
  obtain ⟨hP1, hD1⟩ := hB
  rw [ht] at hP1
  obtain ⟨hP, hD⟩ := tb_fj hP hD hk1 hFc hP1 hD1
  generalize H1 = H at hP hS ⊢
  have hP := tb_swP hP
  have hD := tb_swD hD
  have hM : IvM 0 ρ6 := by first | exact hq6 | exact hq6.1
  refine lv_pop hx hb dL_law_320 rfl ?_
  refine lv_goto (tgt := 1635) hx hb dL_law_321 (by decide) ?_
  exact kk τ ad adm σ3 ρ6 H locs ls _ _ hP hD hS hl hC hM (st_keeper hR hC0 hM0 hf3 hf6).2 (by omega) (by omega)

set_option maxHeartbeats 4000000 in
set_option maxRecDepth 100000 in
theorem lawc_4 {p : Program} {l : Launch} {e : Env} {s : State} {m : MethodId} {below : List Frame} {meth : Method} {c : Code} {A : Nat → Prop} {b L : Nat} {xs : Nat → Int32} {dC : Nat → ClassId} {dI : Nat → Nat → Nat} {cy : Nat → ClassId} {t : Nat} (C0 : lw_At p s m meth c b L xs) (hL : L ≤ 3072) (hAe : A = fun q : Nat => s.heap.size ≤ q) (hK : va_K (dC, dI) vwCl (tyl cy) s) (hN : NW s) (hZ : va_Z "SeatsRound" "KIND_ABOVE" "[I" (.ref t) A s s.heap) (hT : va_T .int t 7 (fun j => .int (kaI j)) A s s.heap) {i : Nat} (hi : i + 6 ≤ L) {τ : Nat} {ad adm : Nat → Nat} {σ σm : S2} {H : Heap} {locs : List Loc} {ls : Array Slot} {cells slots : Nat} (hP : va_P (dC, dI) vwCl (wG (cC cy ad τ) ad (182 + 6 * (τ + 1)) σ ++ wG (cM cy adm) adm 40 σm) H) (hD : va_D A (wG (cC cy ad τ) ad (182 + 6 * (τ + 1)) σ ++ wG (cM cy adm) adm 40 σm)) (hS : va_S A s.heap H locs) (hl : lv_has ls 4 [(3, .int (nI i)), (2, .ref (adm 0)), (1, .ref (ad 0)), (0, .ref b)]) (hC : IvC 0 τ σ) (hM : IvM 0 σm) (hR : RelL σ σm) (hc : cells ≤ 228 + i) (hs : slots ≤ 23896 + 353 * i) (kk : ∀ (τ : Nat) (ad adm : Nat → Nat) (σ σm : S2) (H : Heap) (locs : List Loc) (ls : Array Slot) (cells slots : Nat), va_P (dC, dI) vwCl (wG (cC cy ad τ) ad (182 + 6 * (τ + 1)) σ ++ wG (cM cy adm) adm 40 σm) H → va_D A (wG (cC cy ad τ) ad (182 + 6 * (τ + 1)) σ ++ wG (cM cy adm) adm 40 σm) → va_S A s.heap H locs → lv_has ls 4 [(3, .int (nI i)), (2, .ref (adm 0)), (1, .ref (ad 0)), (0, .ref b)] → IvC 0 τ σ → IvM 0 σm → RelL σ σm → cells ≤ 228 + (i + 6) → slots ≤ 23896 + 353 * (i + 6) → W p l e room_1 s m #[Value.ref b] below meth c H locs cells slots (lw_Z below #[Value.ref b] s) (F0 m 1635 ls [])) : W p l e room_1 s m #[Value.ref b] below meth c H locs cells slots (lw_Z below #[Value.ref b] s) (F0 m 324 ls []) := by
  obtain ⟨hx, hb, hr, hml, hown, hts, hX, hbl, hlocks, hgv⟩ := id C0
  have hown : s.vm.findClass RL = some m.cls := hown
  have hts := fun w h => hts w (wsL_law_in w h)
  have hA : ∀ q : Nat, s.heap.size ≤ q → A q := by rw [hAe]; exact fun _ h => h
  have hbA : ¬ A b := by rw [hAe]; exact Nat.not_le.mpr hbl
  have h10 : τ ≤ 10 := by have h9 : 0 ≤ (σ.1 0 6).toInt ∧ (σ.1 0 6).toInt ≤ 10 := hC.1 0 6; have := hC.2.2; omega
  have hC0 := hC
  have hM0 := hM
  refine lv_aload_n hx hb dL_law_324 rfl (lv_at hl 2 rfl) ?_
  refine lv_aload_n hx hb dL_law_325 rfl (lv_at hl 3 rfl) ?_
  refine lv_iload_n hx hb dL_law_326 rfl (lv_at hl 0 rfl) ?_
  refine lv_iconst (v := nI 1) hx hb dL_law_327 (by decide) ?_
  refine lv_iadd hx hb dL_law_328 ?_
  refine va_sld hx hb hX hbl hbA hS (sc_in (k := 1) (by omega) (by omega)) dL_law_329 ?_
  refine lv_topi (fun a1 ea1 => ?_)
  refine lv_aload_n hx hb dL_law_330 rfl (lv_at hl 3 rfl) ?_
  refine lv_iload_n hx hb dL_law_331 rfl (lv_at hl 0 rfl) ?_
  refine lv_iconst (v := nI 2) hx hb dL_law_332 (by decide) ?_
  refine lv_iadd hx hb dL_law_333 ?_
  refine va_sld hx hb hX hbl hbA hS (sc_in (k := 2) (by omega) (by omega)) dL_law_334 ?_
  refine lv_topi (fun a2 ea2 => ?_)
  obtain ⟨⟨r3, σ3⟩, hf3, hq3⟩ := (sX11_become τ σ a1 a2 hC)
  have hPc := tb_lP hP
  have hDc := tb_lD hD
  have hFc := fr_A hDc hS hA
  refine va_calli (va_runV (As := [.int a1, .int a2]) (rest := []) ⟨hx, hb, hml, hown, hts⟩ (tX11_become l dC dI cy ad τ (τ + 1) (by omega) σ a1 a2 H.size r3 σ3 hf3) (cwV 2 hts gL_law_X11_become rfl rfl rfl (by decide +kernel) ⟨Nat.le_of_ble_eq_true rfl, Nat.le_of_ble_eq_true rfl⟩) (wp_V hK hN hPc hDc (va_recv hK hPc (ci := 11) (q0 := 0) rfl (wG_of (by omega) (cC_0 _ _ _ _ _)))) rfl rfl hl.1 rfl (lv_room (Nat.le_of_ble_eq_true rfl)) dL_law_335 ⟨by show cells + 0 ≤ 600000; omega, by show slots + 0 ≤ 7302250; omega⟩) hS (fun q _ h => hFc q h) hFc (fun r9 u9 t9 H1 locs ht hvm hw3 hB hz1 hk1 hS => ?_)
  obtain rfl : r3 = r9 := hw3.symm
  obtain ⟨hP1, hD1⟩ := hB
  rw [ht] at hP1
  obtain ⟨hP, hD⟩ := tb_fj hP hD hk1 hFc hP1 hD1
  generalize H1 = H at hP hS ⊢
  have hC : IvC 0 τ σ3 := by first | exact hq3 | exact hq3.1
  refine lv_pop hx hb dL_law_338 rfl ?_
  refine lv_aload_n hx hb dL_law_339 rfl (lv_at hl 1 rfl) ?_
  refine lv_aload_n hx hb dL_law_340 rfl (lv_at hl 3 rfl) ?_
  refine lv_iload_n hx hb dL_law_341 rfl (lv_at hl 0 rfl) ?_
  refine lv_iconst (v := nI 1) hx hb dL_law_342 (by decide) ?_
  refine lv_iadd hx hb dL_law_343 ?_
  refine va_sld hx hb hX hbl hbA hS (sc_in (k := 1) (by omega) (by omega)) dL_law_344 ?_
  refine lv_topi (fun a4 ea4 => ?_)
  obtain rfl : a1 = a4 := ea1.trans ea4.symm
  refine lv_aload_n hx hb dL_law_345 rfl (lv_at hl 3 rfl) ?_
  refine lv_iload_n hx hb dL_law_346 rfl (lv_at hl 0 rfl) ?_
  refine lv_iconst (v := nI 2) hx hb dL_law_347 (by decide) ?_
  refine lv_iadd hx hb dL_law_348 ?_
  refine va_sld hx hb hX hbl hbA hS (sc_in (k := 2) (by omega) (by omega)) dL_law_349 ?_
  refine lv_topi (fun a5 ea5 => ?_)
  obtain rfl : a2 = a5 := ea2.trans ea5.symm
  obtain ⟨⟨r6, ρ6⟩, hf6, hq6⟩ := (sX12_become σm a1 a2 hM)
  have hP := tb_swP hP
  have hD := tb_swD hD
  have hPc := tb_lP hP
  have hDc := tb_lD hD
  have hFc := fr_A hDc hS hA
  refine va_calli (va_runV (As := [.int a1, .int a2]) (rest := []) ⟨hx, hb, hml, hown, hts⟩ (tX12_become l dC dI cy adm σm a1 a2 H.size r6 ρ6 hf6) (cwV 2 hts gL_law_X12_become rfl rfl rfl (by decide +kernel) ⟨Nat.le_of_ble_eq_true rfl, Nat.le_of_ble_eq_true rfl⟩) (wp_V hK hN hPc hDc (va_recv hK hPc (ci := 12) (q0 := 0) rfl (wG_of (by omega) rfl))) rfl rfl hl.1 rfl (lv_room (Nat.le_of_ble_eq_true rfl)) dL_law_350 ⟨by show cells + 0 ≤ 600000; omega, by show slots + 0 ≤ 7302250; omega⟩) hS (fun q _ h => hFc q h) hFc (fun r9 u9 t9 H1 locs ht hvm hw6 hB hz1 hk1 hS => ?_)
  obtain rfl : r6 = r9 := hw6.symm
  obtain ⟨hP1, hD1⟩ := hB
  rw [ht] at hP1
  obtain ⟨hP, hD⟩ := tb_fj hP hD hk1 hFc hP1 hD1
  generalize H1 = H at hP hS ⊢
  have hP := tb_swP hP
  have hD := tb_swD hD
  have hM : IvM 0 ρ6 := by first | exact hq6 | exact hq6.1
  refine lv_pop hx hb dL_law_353 rfl ?_
  refine lv_goto (tgt := 1635) hx hb dL_law_354 (by decide) ?_
  exact kk τ ad adm σ3 ρ6 H locs ls _ _ hP hD hS hl hC hM (st_become hR hM0 hf3 hf6).2 (by omega) (by omega)

set_option maxHeartbeats 4000000 in
set_option maxRecDepth 100000 in
theorem lawc_5 {p : Program} {l : Launch} {e : Env} {s : State} {m : MethodId} {below : List Frame} {meth : Method} {c : Code} {A : Nat → Prop} {b L : Nat} {xs : Nat → Int32} {dC : Nat → ClassId} {dI : Nat → Nat → Nat} {cy : Nat → ClassId} {t : Nat} (C0 : lw_At p s m meth c b L xs) (hL : L ≤ 3072) (hAe : A = fun q : Nat => s.heap.size ≤ q) (hK : va_K (dC, dI) vwCl (tyl cy) s) (hN : NW s) (hZ : va_Z "SeatsRound" "KIND_ABOVE" "[I" (.ref t) A s s.heap) (hT : va_T .int t 7 (fun j => .int (kaI j)) A s s.heap) {i : Nat} (hi : i + 6 ≤ L) {τ : Nat} {ad adm : Nat → Nat} {σ σm : S2} {H : Heap} {locs : List Loc} {ls : Array Slot} {cells slots : Nat} (hP : va_P (dC, dI) vwCl (wG (cC cy ad τ) ad (182 + 6 * (τ + 1)) σ ++ wG (cM cy adm) adm 40 σm) H) (hD : va_D A (wG (cC cy ad τ) ad (182 + 6 * (τ + 1)) σ ++ wG (cM cy adm) adm 40 σm)) (hS : va_S A s.heap H locs) (hl : lv_has ls 4 [(3, .int (nI i)), (2, .ref (adm 0)), (1, .ref (ad 0)), (0, .ref b)]) (hC : IvC 0 τ σ) (hM : IvM 0 σm) (hR : RelL σ σm) (hc : cells ≤ 228 + i) (hs : slots ≤ 23896 + 353 * i) (kk : ∀ (τ : Nat) (ad adm : Nat → Nat) (σ σm : S2) (H : Heap) (locs : List Loc) (ls : Array Slot) (cells slots : Nat), va_P (dC, dI) vwCl (wG (cC cy ad τ) ad (182 + 6 * (τ + 1)) σ ++ wG (cM cy adm) adm 40 σm) H → va_D A (wG (cC cy ad τ) ad (182 + 6 * (τ + 1)) σ ++ wG (cM cy adm) adm 40 σm) → va_S A s.heap H locs → lv_has ls 4 [(3, .int (nI i)), (2, .ref (adm 0)), (1, .ref (ad 0)), (0, .ref b)] → IvC 0 τ σ → IvM 0 σm → RelL σ σm → cells ≤ 228 + (i + 6) → slots ≤ 23896 + 353 * (i + 6) → W p l e room_1 s m #[Value.ref b] below meth c H locs cells slots (lw_Z below #[Value.ref b] s) (F0 m 1635 ls [])) : W p l e room_1 s m #[Value.ref b] below meth c H locs cells slots (lw_Z below #[Value.ref b] s) (F0 m 357 ls []) := by
  obtain ⟨hx, hb, hr, hml, hown, hts, hX, hbl, hlocks, hgv⟩ := id C0
  have hown : s.vm.findClass RL = some m.cls := hown
  have hts := fun w h => hts w (wsL_law_in w h)
  have hA : ∀ q : Nat, s.heap.size ≤ q → A q := by rw [hAe]; exact fun _ h => h
  have hbA : ¬ A b := by rw [hAe]; exact Nat.not_le.mpr hbl
  have h10 : τ ≤ 10 := by have h9 : 0 ≤ (σ.1 0 6).toInt ∧ (σ.1 0 6).toInt ≤ 10 := hC.1 0 6; have := hC.2.2; omega
  have hC0 := hC
  have hM0 := hM
  refine lv_aload_n hx hb dL_law_357 rfl (lv_at hl 2 rfl) ?_
  refine lv_aload_n hx hb dL_law_358 rfl (lv_at hl 3 rfl) ?_
  refine lv_iload_n hx hb dL_law_359 rfl (lv_at hl 0 rfl) ?_
  refine lv_iconst (v := nI 1) hx hb dL_law_360 (by decide) ?_
  refine lv_iadd hx hb dL_law_361 ?_
  refine va_sld hx hb hX hbl hbA hS (sc_in (k := 1) (by omega) (by omega)) dL_law_362 ?_
  refine lv_topi (fun a1 ea1 => ?_)
  refine lv_aload_n hx hb dL_law_363 rfl (lv_at hl 3 rfl) ?_
  refine lv_iload_n hx hb dL_law_364 rfl (lv_at hl 0 rfl) ?_
  refine lv_iconst (v := nI 2) hx hb dL_law_365 (by decide) ?_
  refine lv_iadd hx hb dL_law_366 ?_
  refine va_sld hx hb hX hbl hbA hS (sc_in (k := 2) (by omega) (by omega)) dL_law_367 ?_
  refine lv_topi (fun a2 ea2 => ?_)
  obtain ⟨⟨r3, σ3⟩, hf3, hq3⟩ := (sX11_strength τ σ a1 a2 hC)
  have hPc := tb_lP hP
  have hDc := tb_lD hD
  have hFc := fr_A hDc hS hA
  refine va_calli (va_runV (As := [.int a1, .int a2]) (rest := []) ⟨hx, hb, hml, hown, hts⟩ (tX11_strength l dC dI cy ad τ (τ + 1) (by omega) σ a1 a2 H.size r3 σ3 hf3) (cwV 2 hts gL_law_X11_strength rfl rfl rfl (by decide +kernel) ⟨Nat.le_of_ble_eq_true rfl, Nat.le_of_ble_eq_true rfl⟩) (wp_V hK hN hPc hDc (va_recv hK hPc (ci := 11) (q0 := 0) rfl (wG_of (by omega) (cC_0 _ _ _ _ _)))) rfl rfl hl.1 rfl (lv_room (Nat.le_of_ble_eq_true rfl)) dL_law_368 ⟨by show cells + 0 ≤ 600000; omega, by show slots + 0 ≤ 7302250; omega⟩) hS (fun q _ h => hFc q h) hFc (fun r9 u9 t9 H1 locs ht hvm hw3 hB hz1 hk1 hS => ?_)
  obtain rfl : r3 = r9 := hw3.symm
  obtain ⟨hP1, hD1⟩ := hB
  rw [ht] at hP1
  obtain ⟨hP, hD⟩ := tb_fj hP hD hk1 hFc hP1 hD1
  generalize H1 = H at hP hS ⊢
  have hC : IvC 0 τ σ3 := by first | exact hq3 | exact hq3.1
  refine lv_aload_n hx hb dL_law_371 rfl (lv_at hl 1 rfl) ?_
  refine lv_aload_n hx hb dL_law_372 rfl (lv_at hl 3 rfl) ?_
  refine lv_iload_n hx hb dL_law_373 rfl (lv_at hl 0 rfl) ?_
  refine lv_iconst (v := nI 1) hx hb dL_law_374 (by decide) ?_
  refine lv_iadd hx hb dL_law_375 ?_
  refine va_sld hx hb hX hbl hbA hS (sc_in (k := 1) (by omega) (by omega)) dL_law_376 ?_
  refine lv_topi (fun a4 ea4 => ?_)
  obtain rfl : a1 = a4 := ea1.trans ea4.symm
  refine lv_aload_n hx hb dL_law_377 rfl (lv_at hl 3 rfl) ?_
  refine lv_iload_n hx hb dL_law_378 rfl (lv_at hl 0 rfl) ?_
  refine lv_iconst (v := nI 2) hx hb dL_law_379 (by decide) ?_
  refine lv_iadd hx hb dL_law_380 ?_
  refine va_sld hx hb hX hbl hbA hS (sc_in (k := 2) (by omega) (by omega)) dL_law_381 ?_
  refine lv_topi (fun a5 ea5 => ?_)
  obtain rfl : a2 = a5 := ea2.trans ea5.symm
  obtain ⟨⟨r6, ρ6⟩, hf6, hq6⟩ := (sX12_strength σm a1 a2 hM)
  have hP := tb_swP hP
  have hD := tb_swD hD
  have hPc := tb_lP hP
  have hDc := tb_lD hD
  have hFc := fr_A hDc hS hA
  refine va_calli (va_runV (As := [.int a1, .int a2]) (rest := [.int r3]) ⟨hx, hb, hml, hown, hts⟩ (tX12_strength l dC dI cy adm σm a1 a2 H.size r6 ρ6 hf6) (cwV 2 hts gL_law_X12_strength rfl rfl rfl (by decide +kernel) ⟨Nat.le_of_ble_eq_true rfl, Nat.le_of_ble_eq_true rfl⟩) (wp_V hK hN hPc hDc (va_recv hK hPc (ci := 12) (q0 := 0) rfl (wG_of (by omega) rfl))) rfl rfl hl.1 rfl (lv_room (Nat.le_of_ble_eq_true rfl)) dL_law_382 ⟨by show cells + 0 ≤ 600000; omega, by show slots + 0 ≤ 7302250; omega⟩) hS (fun q _ h => hFc q h) hFc (fun r9 u9 t9 H1 locs ht hvm hw6 hB hz1 hk1 hS => ?_)
  obtain rfl : r6 = r9 := hw6.symm
  obtain ⟨hP1, hD1⟩ := hB
  rw [ht] at hP1
  obtain ⟨hP, hD⟩ := tb_fj hP hD hk1 hFc hP1 hD1
  generalize H1 = H at hP hS ⊢
  have hP := tb_swP hP
  have hD := tb_swD hD
  have hM : IvM 0 ρ6 := by first | exact hq6 | exact hq6.1
  refine lv_icmp_eq (tgt := 1635) hx hb dL_law_385 (by decide) (fun _ => ?_) (fun c9 => absurd (st_strength hR hM0 hf3 hf6).1 c9)
  exact kk τ ad adm σ3 ρ6 H locs ls _ _ hP hD hS hl hC hM (st_strength hR hM0 hf3 hf6).2 (by omega) (by omega)

set_option maxHeartbeats 4000000 in
set_option maxRecDepth 100000 in
theorem lawc_6 {p : Program} {l : Launch} {e : Env} {s : State} {m : MethodId} {below : List Frame} {meth : Method} {c : Code} {A : Nat → Prop} {b L : Nat} {xs : Nat → Int32} {dC : Nat → ClassId} {dI : Nat → Nat → Nat} {cy : Nat → ClassId} {t : Nat} (C0 : lw_At p s m meth c b L xs) (hL : L ≤ 3072) (hAe : A = fun q : Nat => s.heap.size ≤ q) (hK : va_K (dC, dI) vwCl (tyl cy) s) (hN : NW s) (hZ : va_Z "SeatsRound" "KIND_ABOVE" "[I" (.ref t) A s s.heap) (hT : va_T .int t 7 (fun j => .int (kaI j)) A s s.heap) {i : Nat} (hi : i + 6 ≤ L) {τ : Nat} {ad adm : Nat → Nat} {σ σm : S2} {H : Heap} {locs : List Loc} {ls : Array Slot} {cells slots : Nat} (hP : va_P (dC, dI) vwCl (wG (cC cy ad τ) ad (182 + 6 * (τ + 1)) σ ++ wG (cM cy adm) adm 40 σm) H) (hD : va_D A (wG (cC cy ad τ) ad (182 + 6 * (τ + 1)) σ ++ wG (cM cy adm) adm 40 σm)) (hS : va_S A s.heap H locs) (hl : lv_has ls 4 [(3, .int (nI i)), (2, .ref (adm 0)), (1, .ref (ad 0)), (0, .ref b)]) (hC : IvC 0 τ σ) (hM : IvM 0 σm) (hR : RelL σ σm) (hc : cells ≤ 228 + i) (hs : slots ≤ 23896 + 353 * i) (kk : ∀ (τ : Nat) (ad adm : Nat → Nat) (σ σm : S2) (H : Heap) (locs : List Loc) (ls : Array Slot) (cells slots : Nat), va_P (dC, dI) vwCl (wG (cC cy ad τ) ad (182 + 6 * (τ + 1)) σ ++ wG (cM cy adm) adm 40 σm) H → va_D A (wG (cC cy ad τ) ad (182 + 6 * (τ + 1)) σ ++ wG (cM cy adm) adm 40 σm) → va_S A s.heap H locs → lv_has ls 4 [(3, .int (nI i)), (2, .ref (adm 0)), (1, .ref (ad 0)), (0, .ref b)] → IvC 0 τ σ → IvM 0 σm → RelL σ σm → cells ≤ 228 + (i + 6) → slots ≤ 23896 + 353 * (i + 6) → W p l e room_1 s m #[Value.ref b] below meth c H locs cells slots (lw_Z below #[Value.ref b] s) (F0 m 1635 ls [])) : W p l e room_1 s m #[Value.ref b] below meth c H locs cells slots (lw_Z below #[Value.ref b] s) (F0 m 390 ls []) := by
  obtain ⟨hx, hb, hr, hml, hown, hts, hX, hbl, hlocks, hgv⟩ := id C0
  have hown : s.vm.findClass RL = some m.cls := hown
  have hts := fun w h => hts w (wsL_law_in w h)
  have hA : ∀ q : Nat, s.heap.size ≤ q → A q := by rw [hAe]; exact fun _ h => h
  have hbA : ¬ A b := by rw [hAe]; exact Nat.not_le.mpr hbl
  have h10 : τ ≤ 10 := by have h9 : 0 ≤ (σ.1 0 6).toInt ∧ (σ.1 0 6).toInt ≤ 10 := hC.1 0 6; have := hC.2.2; omega
  have hC0 := hC
  have hM0 := hM
  refine lv_aload_n hx hb dL_law_390 rfl (lv_at hl 2 rfl) ?_
  refine lv_aload_n hx hb dL_law_391 rfl (lv_at hl 3 rfl) ?_
  refine lv_iload_n hx hb dL_law_392 rfl (lv_at hl 0 rfl) ?_
  refine lv_iconst (v := nI 1) hx hb dL_law_393 (by decide) ?_
  refine lv_iadd hx hb dL_law_394 ?_
  refine va_sld hx hb hX hbl hbA hS (sc_in (k := 1) (by omega) (by omega)) dL_law_395 ?_
  refine lv_topi (fun a1 ea1 => ?_)
  refine lv_aload_n hx hb dL_law_396 rfl (lv_at hl 3 rfl) ?_
  refine lv_iload_n hx hb dL_law_397 rfl (lv_at hl 0 rfl) ?_
  refine lv_iconst (v := nI 2) hx hb dL_law_398 (by decide) ?_
  refine lv_iadd hx hb dL_law_399 ?_
  refine va_sld hx hb hX hbl hbA hS (sc_in (k := 2) (by omega) (by omega)) dL_law_400 ?_
  refine lv_topi (fun a2 ea2 => ?_)
  obtain ⟨r3, hf3, hq3⟩ := (sX11_ofKeeper τ σ a1 a2 hC)
  have hPc := tb_lP hP
  have hDc := tb_lD hD
  have hFc := fr_A hDc hS hA
  refine va_calli (va_runV (As := [.int a1, .int a2]) (rest := []) ⟨hx, hb, hml, hown, hts⟩ (tX11_ofKeeper l dC dI cy ad τ (τ + 1) (by omega) σ a1 a2 H.size r3 hf3) (cwV 2 hts gL_law_X11_ofKeeper rfl rfl rfl (by decide +kernel) ⟨Nat.le_of_ble_eq_true rfl, Nat.le_of_ble_eq_true rfl⟩) (wp_V hK hN hPc hDc (va_recv hK hPc (ci := 11) (q0 := 0) rfl (wG_of (by omega) (cC_0 _ _ _ _ _)))) rfl rfl hl.1 rfl (lv_room (Nat.le_of_ble_eq_true rfl)) dL_law_401 ⟨by show cells + 0 ≤ 600000; omega, by show slots + 0 ≤ 7302250; omega⟩) hS (fun q _ h => hFc q h) hFc (fun r9 u9 t9 H1 locs ht hvm hw3 hB hz1 hk1 hS => ?_)
  obtain rfl : r3 = r9 := hw3.symm
  obtain ⟨hP1, hD1⟩ := hB
  rw [ht] at hP1
  obtain ⟨hP, hD⟩ := tb_fj hP hD hk1 hFc hP1 hD1
  generalize H1 = H at hP hS ⊢
  refine lv_pop hx hb dL_law_404 rfl ?_
  refine lv_aload_n hx hb dL_law_405 rfl (lv_at hl 1 rfl) ?_
  refine lv_aload_n hx hb dL_law_406 rfl (lv_at hl 3 rfl) ?_
  refine lv_iload_n hx hb dL_law_407 rfl (lv_at hl 0 rfl) ?_
  refine lv_iconst (v := nI 1) hx hb dL_law_408 (by decide) ?_
  refine lv_iadd hx hb dL_law_409 ?_
  refine va_sld hx hb hX hbl hbA hS (sc_in (k := 1) (by omega) (by omega)) dL_law_410 ?_
  refine lv_topi (fun a4 ea4 => ?_)
  obtain rfl : a1 = a4 := ea1.trans ea4.symm
  refine lv_aload_n hx hb dL_law_411 rfl (lv_at hl 3 rfl) ?_
  refine lv_iload_n hx hb dL_law_412 rfl (lv_at hl 0 rfl) ?_
  refine lv_iconst (v := nI 2) hx hb dL_law_413 (by decide) ?_
  refine lv_iadd hx hb dL_law_414 ?_
  refine va_sld hx hb hX hbl hbA hS (sc_in (k := 2) (by omega) (by omega)) dL_law_415 ?_
  refine lv_topi (fun a5 ea5 => ?_)
  obtain rfl : a2 = a5 := ea2.trans ea5.symm
  obtain ⟨r6, hf6, hq6⟩ := (sX12_ofKeeper σm a1 a2 hM)
  have hP := tb_swP hP
  have hD := tb_swD hD
  have hPc := tb_lP hP
  have hDc := tb_lD hD
  have hFc := fr_A hDc hS hA
  refine va_calli (va_runV (As := [.int a1, .int a2]) (rest := []) ⟨hx, hb, hml, hown, hts⟩ (tX12_ofKeeper l dC dI cy adm σm a1 a2 H.size r6 hf6) (cwV 2 hts gL_law_X12_ofKeeper rfl rfl rfl (by decide +kernel) ⟨Nat.le_of_ble_eq_true rfl, Nat.le_of_ble_eq_true rfl⟩) (wp_V hK hN hPc hDc (va_recv hK hPc (ci := 12) (q0 := 0) rfl (wG_of (by omega) rfl))) rfl rfl hl.1 rfl (lv_room (Nat.le_of_ble_eq_true rfl)) dL_law_416 ⟨by show cells + 0 ≤ 600000; omega, by show slots + 0 ≤ 7302250; omega⟩) hS (fun q _ h => hFc q h) hFc (fun r9 u9 t9 H1 locs ht hvm hw6 hB hz1 hk1 hS => ?_)
  obtain rfl : r6 = r9 := hw6.symm
  obtain ⟨hP1, hD1⟩ := hB
  rw [ht] at hP1
  obtain ⟨hP, hD⟩ := tb_fj hP hD hk1 hFc hP1 hD1
  generalize H1 = H at hP hS ⊢
  have hP := tb_swP hP
  have hD := tb_swD hD
  refine lv_pop hx hb dL_law_419 rfl ?_
  refine lv_goto (tgt := 1635) hx hb dL_law_420 (by decide) ?_
  exact kk τ ad adm σ σm H locs ls _ _ hP hD hS hl hC hM (RelA.fr (a := 0) (b := 0) hR (Fr.rf _) (Fr.rf _) rfl rfl) (by omega) (by omega)

set_option maxHeartbeats 4000000 in
set_option maxRecDepth 100000 in
theorem lawc_7 {p : Program} {l : Launch} {e : Env} {s : State} {m : MethodId} {below : List Frame} {meth : Method} {c : Code} {A : Nat → Prop} {b L : Nat} {xs : Nat → Int32} {dC : Nat → ClassId} {dI : Nat → Nat → Nat} {cy : Nat → ClassId} {t : Nat} (C0 : lw_At p s m meth c b L xs) (hL : L ≤ 3072) (hAe : A = fun q : Nat => s.heap.size ≤ q) (hK : va_K (dC, dI) vwCl (tyl cy) s) (hN : NW s) (hZ : va_Z "SeatsRound" "KIND_ABOVE" "[I" (.ref t) A s s.heap) (hT : va_T .int t 7 (fun j => .int (kaI j)) A s s.heap) {i : Nat} (hi : i + 6 ≤ L) {τ : Nat} {ad adm : Nat → Nat} {σ σm : S2} {H : Heap} {locs : List Loc} {ls : Array Slot} {cells slots : Nat} (hP : va_P (dC, dI) vwCl (wG (cC cy ad τ) ad (182 + 6 * (τ + 1)) σ ++ wG (cM cy adm) adm 40 σm) H) (hD : va_D A (wG (cC cy ad τ) ad (182 + 6 * (τ + 1)) σ ++ wG (cM cy adm) adm 40 σm)) (hS : va_S A s.heap H locs) (hl : lv_has ls 4 [(3, .int (nI i)), (2, .ref (adm 0)), (1, .ref (ad 0)), (0, .ref b)]) (hC : IvC 0 τ σ) (hM : IvM 0 σm) (hR : RelL σ σm) (hc : cells ≤ 228 + i) (hs : slots ≤ 23896 + 353 * i) (kk : ∀ (τ : Nat) (ad adm : Nat → Nat) (σ σm : S2) (H : Heap) (locs : List Loc) (ls : Array Slot) (cells slots : Nat), va_P (dC, dI) vwCl (wG (cC cy ad τ) ad (182 + 6 * (τ + 1)) σ ++ wG (cM cy adm) adm 40 σm) H → va_D A (wG (cC cy ad τ) ad (182 + 6 * (τ + 1)) σ ++ wG (cM cy adm) adm 40 σm) → va_S A s.heap H locs → lv_has ls 4 [(3, .int (nI i)), (2, .ref (adm 0)), (1, .ref (ad 0)), (0, .ref b)] → IvC 0 τ σ → IvM 0 σm → RelL σ σm → cells ≤ 228 + (i + 6) → slots ≤ 23896 + 353 * (i + 6) → W p l e room_1 s m #[Value.ref b] below meth c H locs cells slots (lw_Z below #[Value.ref b] s) (F0 m 1635 ls [])) : W p l e room_1 s m #[Value.ref b] below meth c H locs cells slots (lw_Z below #[Value.ref b] s) (F0 m 423 ls []) := by
  obtain ⟨hx, hb, hr, hml, hown, hts, hX, hbl, hlocks, hgv⟩ := id C0
  have hown : s.vm.findClass RL = some m.cls := hown
  have hts := fun w h => hts w (wsL_law_in w h)
  have hA : ∀ q : Nat, s.heap.size ≤ q → A q := by rw [hAe]; exact fun _ h => h
  have hbA : ¬ A b := by rw [hAe]; exact Nat.not_le.mpr hbl
  have h10 : τ ≤ 10 := by have h9 : 0 ≤ (σ.1 0 6).toInt ∧ (σ.1 0 6).toInt ≤ 10 := hC.1 0 6; have := hC.2.2; omega
  have hC0 := hC
  have hM0 := hM
  refine lv_aload_n hx hb dL_law_423 rfl (lv_at hl 2 rfl) ?_
  refine lv_aload_n hx hb dL_law_424 rfl (lv_at hl 3 rfl) ?_
  refine lv_iload_n hx hb dL_law_425 rfl (lv_at hl 0 rfl) ?_
  refine lv_iconst (v := nI 1) hx hb dL_law_426 (by decide) ?_
  refine lv_iadd hx hb dL_law_427 ?_
  refine va_sld hx hb hX hbl hbA hS (sc_in (k := 1) (by omega) (by omega)) dL_law_428 ?_
  refine lv_topi (fun a1 ea1 => ?_)
  refine lv_aload_n hx hb dL_law_429 rfl (lv_at hl 3 rfl) ?_
  refine lv_iload_n hx hb dL_law_430 rfl (lv_at hl 0 rfl) ?_
  refine lv_iconst (v := nI 2) hx hb dL_law_431 (by decide) ?_
  refine lv_iadd hx hb dL_law_432 ?_
  refine va_sld hx hb hX hbl hbA hS (sc_in (k := 2) (by omega) (by omega)) dL_law_433 ?_
  refine lv_topi (fun a2 ea2 => ?_)
  obtain ⟨⟨r3, δ, σ3⟩, hf3, hq3⟩ := (sX11_table (a1 := a1) (a2 := a2) hC)
  have hPc := tb_lP hP
  have hDc := tb_lD hD
  have hFc := fr_A hDc hS hA
  refine va_calli (va_runV (As := [.int a1, .int a2]) (rest := []) ⟨hx, hb, hml, hown, hts⟩ (tX11_table l dC dI cy ad τ (τ + 1) (by omega) rfl σ a1 a2 H.size r3 δ σ3 hf3) (cwV 2 hts gL_law_X11_table rfl rfl rfl (by decide +kernel) ⟨Nat.le_of_ble_eq_true rfl, Nat.le_of_ble_eq_true rfl⟩) (wp_V hK hN hPc hDc (va_recv hK hPc (ci := 11) (q0 := 0) rfl (wG_of (by omega) (cC_0 _ _ _ _ _)))) rfl rfl hl.1 rfl (lv_room (Nat.le_of_ble_eq_true rfl)) dL_law_434 ⟨by show cells + 6 ≤ 600000; omega, by show slots + 2117 ≤ 7302250; omega⟩) hS (fun q _ h => hFc q h) hFc (fun r9 u7 t9 H1 locs ht hvm hw3 hB hz1 hk1 hS => ?_)
  obtain rfl : r3 = r9 := hw3.symm
  obtain ⟨⟨hP1, hD1⟩, hu⟩ := hB
  rw [ht] at hP1
  obtain ⟨hP, hD⟩ := tb_fj hP hD hk1 hFc hP1 hD1
  generalize H1 = H at hP hS ⊢
  rw [show τ + 1 + δ = τ + δ + 1 by omega] at hP hD
  rw [← hu 0 (by omega)] at hl
  have hC : IvC 0 (τ + δ) σ3 := hq3.1
  have hδ : δ ≤ 1 := hq3.2
  refine lv_pop hx hb dL_law_437 rfl ?_
  refine lv_aload_n hx hb dL_law_438 rfl (lv_at hl 1 rfl) ?_
  refine lv_aload_n hx hb dL_law_439 rfl (lv_at hl 3 rfl) ?_
  refine lv_iload_n hx hb dL_law_440 rfl (lv_at hl 0 rfl) ?_
  refine lv_iconst (v := nI 1) hx hb dL_law_441 (by decide) ?_
  refine lv_iadd hx hb dL_law_442 ?_
  refine va_sld hx hb hX hbl hbA hS (sc_in (k := 1) (by omega) (by omega)) dL_law_443 ?_
  refine lv_topi (fun a4 ea4 => ?_)
  obtain rfl : a1 = a4 := ea1.trans ea4.symm
  refine lv_aload_n hx hb dL_law_444 rfl (lv_at hl 3 rfl) ?_
  refine lv_iload_n hx hb dL_law_445 rfl (lv_at hl 0 rfl) ?_
  refine lv_iconst (v := nI 2) hx hb dL_law_446 (by decide) ?_
  refine lv_iadd hx hb dL_law_447 ?_
  refine va_sld hx hb hX hbl hbA hS (sc_in (k := 2) (by omega) (by omega)) dL_law_448 ?_
  refine lv_topi (fun a5 ea5 => ?_)
  obtain rfl : a2 = a5 := ea2.trans ea5.symm
  obtain ⟨⟨r6, ρ6⟩, hf6, hq6⟩ := (sX12_table σm a1 a2 hM)
  have hP := tb_swP hP
  have hD := tb_swD hD
  have hPc := tb_lP hP
  have hDc := tb_lD hD
  have hFc := fr_A hDc hS hA
  refine va_calli (va_runV (As := [.int a1, .int a2]) (rest := []) ⟨hx, hb, hml, hown, hts⟩ (tX12_table l dC dI cy adm σm a1 a2 H.size r6 ρ6 hf6) (cwV 2 hts gL_law_X12_table rfl rfl rfl (by decide +kernel) ⟨Nat.le_of_ble_eq_true rfl, Nat.le_of_ble_eq_true rfl⟩) (wp_V hK hN hPc hDc (va_recv hK hPc (ci := 12) (q0 := 0) rfl (wG_of (by omega) rfl))) rfl rfl hl.1 rfl (lv_room (Nat.le_of_ble_eq_true rfl)) dL_law_449 ⟨by show cells + 6 + 0 ≤ 600000; omega, by show slots + 2117 + 0 ≤ 7302250; omega⟩) hS (fun q _ h => hFc q h) hFc (fun r9 u9 t9 H1 locs ht hvm hw6 hB hz1 hk1 hS => ?_)
  obtain rfl : r6 = r9 := hw6.symm
  obtain ⟨hP1, hD1⟩ := hB
  rw [ht] at hP1
  obtain ⟨hP, hD⟩ := tb_fj hP hD hk1 hFc hP1 hD1
  generalize H1 = H at hP hS ⊢
  have hP := tb_swP hP
  have hD := tb_swD hD
  have hM : IvM 0 ρ6 := by first | exact hq6 | exact hq6.1
  refine lv_pop hx hb dL_law_452 rfl ?_
  refine lv_goto (tgt := 1635) hx hb dL_law_453 (by decide) ?_
  exact kk (τ + δ) u7 adm σ3 ρ6 H locs ls _ _ hP hD hS hl hC hM (RelA.fr (a := 25167363) (b := 16777731) hR (wfX11_table _ hf3) (wfX12_table (m := 16777731) rfl _ _ _ (Fr.rf _) _ hf6) rfl rfl) (by omega) (by omega)

set_option maxHeartbeats 4000000 in
set_option maxRecDepth 100000 in
theorem lawc_8 {p : Program} {l : Launch} {e : Env} {s : State} {m : MethodId} {below : List Frame} {meth : Method} {c : Code} {A : Nat → Prop} {b L : Nat} {xs : Nat → Int32} {dC : Nat → ClassId} {dI : Nat → Nat → Nat} {cy : Nat → ClassId} {t : Nat} (C0 : lw_At p s m meth c b L xs) (hL : L ≤ 3072) (hAe : A = fun q : Nat => s.heap.size ≤ q) (hK : va_K (dC, dI) vwCl (tyl cy) s) (hN : NW s) (hZ : va_Z "SeatsRound" "KIND_ABOVE" "[I" (.ref t) A s s.heap) (hT : va_T .int t 7 (fun j => .int (kaI j)) A s s.heap) {i : Nat} (hi : i + 6 ≤ L) {τ : Nat} {ad adm : Nat → Nat} {σ σm : S2} {H : Heap} {locs : List Loc} {ls : Array Slot} {cells slots : Nat} (hP : va_P (dC, dI) vwCl (wG (cC cy ad τ) ad (182 + 6 * (τ + 1)) σ ++ wG (cM cy adm) adm 40 σm) H) (hD : va_D A (wG (cC cy ad τ) ad (182 + 6 * (τ + 1)) σ ++ wG (cM cy adm) adm 40 σm)) (hS : va_S A s.heap H locs) (hl : lv_has ls 4 [(3, .int (nI i)), (2, .ref (adm 0)), (1, .ref (ad 0)), (0, .ref b)]) (hC : IvC 0 τ σ) (hM : IvM 0 σm) (hR : RelL σ σm) (hc : cells ≤ 228 + i) (hs : slots ≤ 23896 + 353 * i) (kk : ∀ (τ : Nat) (ad adm : Nat → Nat) (σ σm : S2) (H : Heap) (locs : List Loc) (ls : Array Slot) (cells slots : Nat), va_P (dC, dI) vwCl (wG (cC cy ad τ) ad (182 + 6 * (τ + 1)) σ ++ wG (cM cy adm) adm 40 σm) H → va_D A (wG (cC cy ad τ) ad (182 + 6 * (τ + 1)) σ ++ wG (cM cy adm) adm 40 σm) → va_S A s.heap H locs → lv_has ls 4 [(3, .int (nI i)), (2, .ref (adm 0)), (1, .ref (ad 0)), (0, .ref b)] → IvC 0 τ σ → IvM 0 σm → RelL σ σm → cells ≤ 228 + (i + 6) → slots ≤ 23896 + 353 * (i + 6) → W p l e room_1 s m #[Value.ref b] below meth c H locs cells slots (lw_Z below #[Value.ref b] s) (F0 m 1635 ls [])) : W p l e room_1 s m #[Value.ref b] below meth c H locs cells slots (lw_Z below #[Value.ref b] s) (F0 m 456 ls []) := by
  obtain ⟨hx, hb, hr, hml, hown, hts, hX, hbl, hlocks, hgv⟩ := id C0
  have hown : s.vm.findClass RL = some m.cls := hown
  have hts := fun w h => hts w (wsL_law_in w h)
  have hA : ∀ q : Nat, s.heap.size ≤ q → A q := by rw [hAe]; exact fun _ h => h
  have hbA : ¬ A b := by rw [hAe]; exact Nat.not_le.mpr hbl
  have h10 : τ ≤ 10 := by have h9 : 0 ≤ (σ.1 0 6).toInt ∧ (σ.1 0 6).toInt ≤ 10 := hC.1 0 6; have := hC.2.2; omega
  have hC0 := hC
  have hM0 := hM
  refine lv_aload_n hx hb dL_law_456 rfl (lv_at hl 2 rfl) ?_
  refine lv_aload_n hx hb dL_law_457 rfl (lv_at hl 3 rfl) ?_
  refine lv_iload_n hx hb dL_law_458 rfl (lv_at hl 0 rfl) ?_
  refine lv_iconst (v := nI 1) hx hb dL_law_459 (by decide) ?_
  refine lv_iadd hx hb dL_law_460 ?_
  refine va_sld hx hb hX hbl hbA hS (sc_in (k := 1) (by omega) (by omega)) dL_law_461 ?_
  refine lv_topi (fun a1 ea1 => ?_)
  refine lv_aload_n hx hb dL_law_462 rfl (lv_at hl 3 rfl) ?_
  refine lv_iload_n hx hb dL_law_463 rfl (lv_at hl 0 rfl) ?_
  refine lv_iconst (v := nI 2) hx hb dL_law_464 (by decide) ?_
  refine lv_iadd hx hb dL_law_465 ?_
  refine va_sld hx hb hX hbl hbA hS (sc_in (k := 2) (by omega) (by omega)) dL_law_466 ?_
  refine lv_topi (fun a2 ea2 => ?_)
  obtain ⟨⟨r3, σ3⟩, hf3, hq3⟩ := (sX11_ofTable τ σ a1 a2 hC)
  have hPc := tb_lP hP
  have hDc := tb_lD hD
  have hFc := fr_A hDc hS hA
  refine va_calli (va_runV (As := [.int a1, .int a2]) (rest := []) ⟨hx, hb, hml, hown, hts⟩ (tX11_ofTable l dC dI cy ad τ (τ + 1) (by omega) σ a1 a2 H.size r3 σ3 hf3) (cwV 2 hts gL_law_X11_ofTable rfl rfl rfl (by decide +kernel) ⟨Nat.le_of_ble_eq_true rfl, Nat.le_of_ble_eq_true rfl⟩) (wp_V hK hN hPc hDc (va_recv hK hPc (ci := 11) (q0 := 0) rfl (wG_of (by omega) (cC_0 _ _ _ _ _)))) rfl rfl hl.1 rfl (lv_room (Nat.le_of_ble_eq_true rfl)) dL_law_467 ⟨by show cells + 0 ≤ 600000; omega, by show slots + 0 ≤ 7302250; omega⟩) hS (fun q _ h => hFc q h) hFc (fun r9 u9 t9 H1 locs ht hvm hw3 hB hz1 hk1 hS => ?_)
  obtain rfl : r3 = r9 := hw3.symm
  obtain ⟨hP1, hD1⟩ := hB
  rw [ht] at hP1
  obtain ⟨hP, hD⟩ := tb_fj hP hD hk1 hFc hP1 hD1
  generalize H1 = H at hP hS ⊢
  have hC : IvC 0 τ σ3 := by first | exact hq3 | exact hq3.1
  refine lv_pop hx hb dL_law_470 rfl ?_
  refine lv_aload_n hx hb dL_law_471 rfl (lv_at hl 1 rfl) ?_
  refine lv_aload_n hx hb dL_law_472 rfl (lv_at hl 3 rfl) ?_
  refine lv_iload_n hx hb dL_law_473 rfl (lv_at hl 0 rfl) ?_
  refine lv_iconst (v := nI 1) hx hb dL_law_474 (by decide) ?_
  refine lv_iadd hx hb dL_law_475 ?_
  refine va_sld hx hb hX hbl hbA hS (sc_in (k := 1) (by omega) (by omega)) dL_law_476 ?_
  refine lv_topi (fun a4 ea4 => ?_)
  obtain rfl : a1 = a4 := ea1.trans ea4.symm
  refine lv_aload_n hx hb dL_law_477 rfl (lv_at hl 3 rfl) ?_
  refine lv_iload_n hx hb dL_law_478 rfl (lv_at hl 0 rfl) ?_
  refine lv_iconst (v := nI 2) hx hb dL_law_479 (by decide) ?_
  refine lv_iadd hx hb dL_law_480 ?_
  refine va_sld hx hb hX hbl hbA hS (sc_in (k := 2) (by omega) (by omega)) dL_law_481 ?_
  refine lv_topi (fun a5 ea5 => ?_)
  obtain rfl : a2 = a5 := ea2.trans ea5.symm
  obtain ⟨⟨r6, ρ6⟩, hf6, hq6⟩ := (sX12_ofTable σm a1 a2 hM)
  have hP := tb_swP hP
  have hD := tb_swD hD
  have hPc := tb_lP hP
  have hDc := tb_lD hD
  have hFc := fr_A hDc hS hA
  refine va_calli (va_runV (As := [.int a1, .int a2]) (rest := []) ⟨hx, hb, hml, hown, hts⟩ (tX12_ofTable l dC dI cy adm σm a1 a2 H.size r6 ρ6 hf6) (cwV 2 hts gL_law_X12_ofTable rfl rfl rfl (by decide +kernel) ⟨Nat.le_of_ble_eq_true rfl, Nat.le_of_ble_eq_true rfl⟩) (wp_V hK hN hPc hDc (va_recv hK hPc (ci := 12) (q0 := 0) rfl (wG_of (by omega) rfl))) rfl rfl hl.1 rfl (lv_room (Nat.le_of_ble_eq_true rfl)) dL_law_482 ⟨by show cells + 0 ≤ 600000; omega, by show slots + 0 ≤ 7302250; omega⟩) hS (fun q _ h => hFc q h) hFc (fun r9 u9 t9 H1 locs ht hvm hw6 hB hz1 hk1 hS => ?_)
  obtain rfl : r6 = r9 := hw6.symm
  obtain ⟨hP1, hD1⟩ := hB
  rw [ht] at hP1
  obtain ⟨hP, hD⟩ := tb_fj hP hD hk1 hFc hP1 hD1
  generalize H1 = H at hP hS ⊢
  have hP := tb_swP hP
  have hD := tb_swD hD
  have hM : IvM 0 ρ6 := by first | exact hq6 | exact hq6.1
  refine lv_pop hx hb dL_law_485 rfl ?_
  refine lv_goto (tgt := 1635) hx hb dL_law_486 (by decide) ?_
  exact kk τ ad adm σ3 ρ6 H locs ls _ _ hP hD hS hl hC hM (RelA.fr (a := 1024) (b := 1) hR (wfX11_ofTable (m := 1024) rfl _ _ _ _ (Fr.rf _) _ hf3) (wfX12_ofTable (m := 1) rfl _ _ _ (Fr.rf _) _ hf6) rfl rfl) (by omega) (by omega)

set_option maxHeartbeats 4000000 in
set_option maxRecDepth 100000 in
theorem lawc_9 {p : Program} {l : Launch} {e : Env} {s : State} {m : MethodId} {below : List Frame} {meth : Method} {c : Code} {A : Nat → Prop} {b L : Nat} {xs : Nat → Int32} {dC : Nat → ClassId} {dI : Nat → Nat → Nat} {cy : Nat → ClassId} {t : Nat} (C0 : lw_At p s m meth c b L xs) (hL : L ≤ 3072) (hAe : A = fun q : Nat => s.heap.size ≤ q) (hK : va_K (dC, dI) vwCl (tyl cy) s) (hN : NW s) (hZ : va_Z "SeatsRound" "KIND_ABOVE" "[I" (.ref t) A s s.heap) (hT : va_T .int t 7 (fun j => .int (kaI j)) A s s.heap) {i : Nat} (hi : i + 6 ≤ L) {τ : Nat} {ad adm : Nat → Nat} {σ σm : S2} {H : Heap} {locs : List Loc} {ls : Array Slot} {cells slots : Nat} (hP : va_P (dC, dI) vwCl (wG (cC cy ad τ) ad (182 + 6 * (τ + 1)) σ ++ wG (cM cy adm) adm 40 σm) H) (hD : va_D A (wG (cC cy ad τ) ad (182 + 6 * (τ + 1)) σ ++ wG (cM cy adm) adm 40 σm)) (hS : va_S A s.heap H locs) (hl : lv_has ls 4 [(3, .int (nI i)), (2, .ref (adm 0)), (1, .ref (ad 0)), (0, .ref b)]) (hC : IvC 0 τ σ) (hM : IvM 0 σm) (hR : RelL σ σm) (hc : cells ≤ 228 + i) (hs : slots ≤ 23896 + 353 * i) (kk : ∀ (τ : Nat) (ad adm : Nat → Nat) (σ σm : S2) (H : Heap) (locs : List Loc) (ls : Array Slot) (cells slots : Nat), va_P (dC, dI) vwCl (wG (cC cy ad τ) ad (182 + 6 * (τ + 1)) σ ++ wG (cM cy adm) adm 40 σm) H → va_D A (wG (cC cy ad τ) ad (182 + 6 * (τ + 1)) σ ++ wG (cM cy adm) adm 40 σm) → va_S A s.heap H locs → lv_has ls 4 [(3, .int (nI i)), (2, .ref (adm 0)), (1, .ref (ad 0)), (0, .ref b)] → IvC 0 τ σ → IvM 0 σm → RelL σ σm → cells ≤ 228 + (i + 6) → slots ≤ 23896 + 353 * (i + 6) → W p l e room_1 s m #[Value.ref b] below meth c H locs cells slots (lw_Z below #[Value.ref b] s) (F0 m 1635 ls [])) : W p l e room_1 s m #[Value.ref b] below meth c H locs cells slots (lw_Z below #[Value.ref b] s) (F0 m 489 ls []) := by
  obtain ⟨hx, hb, hr, hml, hown, hts, hX, hbl, hlocks, hgv⟩ := id C0
  have hown : s.vm.findClass RL = some m.cls := hown
  have hts := fun w h => hts w (wsL_law_in w h)
  have hA : ∀ q : Nat, s.heap.size ≤ q → A q := by rw [hAe]; exact fun _ h => h
  have hbA : ¬ A b := by rw [hAe]; exact Nat.not_le.mpr hbl
  have h10 : τ ≤ 10 := by have h9 : 0 ≤ (σ.1 0 6).toInt ∧ (σ.1 0 6).toInt ≤ 10 := hC.1 0 6; have := hC.2.2; omega
  have hC0 := hC
  have hM0 := hM
  refine lv_aload_n hx hb dL_law_489 rfl (lv_at hl 2 rfl) ?_
  refine lv_aload_n hx hb dL_law_490 rfl (lv_at hl 3 rfl) ?_
  refine lv_iload_n hx hb dL_law_491 rfl (lv_at hl 0 rfl) ?_
  refine lv_iconst (v := nI 1) hx hb dL_law_492 (by decide) ?_
  refine lv_iadd hx hb dL_law_493 ?_
  refine va_sld hx hb hX hbl hbA hS (sc_in (k := 1) (by omega) (by omega)) dL_law_494 ?_
  refine lv_topi (fun a1 ea1 => ?_)
  refine lv_aload_n hx hb dL_law_495 rfl (lv_at hl 3 rfl) ?_
  refine lv_iload_n hx hb dL_law_496 rfl (lv_at hl 0 rfl) ?_
  refine lv_iconst (v := nI 2) hx hb dL_law_497 (by decide) ?_
  refine lv_iadd hx hb dL_law_498 ?_
  refine va_sld hx hb hX hbl hbA hS (sc_in (k := 2) (by omega) (by omega)) dL_law_499 ?_
  refine lv_topi (fun a2 ea2 => ?_)
  obtain ⟨r3, hf3, hq3⟩ := (sX11_seat τ σ a1 a2 hC)
  have hPc := tb_lP hP
  have hDc := tb_lD hD
  have hFc := fr_A hDc hS hA
  refine va_calli (va_runV (As := [.int a1, .int a2]) (rest := []) ⟨hx, hb, hml, hown, hts⟩ (tX11_seat l dC dI cy ad τ (τ + 1) (by omega) σ a1 a2 H.size r3 hf3) (cwV 2 hts gL_law_X11_seat rfl rfl rfl (by decide +kernel) ⟨Nat.le_of_ble_eq_true rfl, Nat.le_of_ble_eq_true rfl⟩) (wp_V hK hN hPc hDc (va_recv hK hPc (ci := 11) (q0 := 0) rfl (wG_of (by omega) (cC_0 _ _ _ _ _)))) rfl rfl hl.1 rfl (lv_room (Nat.le_of_ble_eq_true rfl)) dL_law_500 ⟨by show cells + 0 ≤ 600000; omega, by show slots + 0 ≤ 7302250; omega⟩) hS (fun q _ h => hFc q h) hFc (fun r9 u9 t9 H1 locs ht hvm hw3 hB hz1 hk1 hS => ?_)
  obtain rfl : r3 = r9 := hw3.symm
  obtain ⟨hP1, hD1⟩ := hB
  rw [ht] at hP1
  obtain ⟨hP, hD⟩ := tb_fj hP hD hk1 hFc hP1 hD1
  generalize H1 = H at hP hS ⊢
  refine lv_pop hx hb dL_law_503 rfl ?_
  refine lv_aload_n hx hb dL_law_504 rfl (lv_at hl 1 rfl) ?_
  refine lv_aload_n hx hb dL_law_505 rfl (lv_at hl 3 rfl) ?_
  refine lv_iload_n hx hb dL_law_506 rfl (lv_at hl 0 rfl) ?_
  refine lv_iconst (v := nI 1) hx hb dL_law_507 (by decide) ?_
  refine lv_iadd hx hb dL_law_508 ?_
  refine va_sld hx hb hX hbl hbA hS (sc_in (k := 1) (by omega) (by omega)) dL_law_509 ?_
  refine lv_topi (fun a4 ea4 => ?_)
  obtain rfl : a1 = a4 := ea1.trans ea4.symm
  refine lv_aload_n hx hb dL_law_510 rfl (lv_at hl 3 rfl) ?_
  refine lv_iload_n hx hb dL_law_511 rfl (lv_at hl 0 rfl) ?_
  refine lv_iconst (v := nI 2) hx hb dL_law_512 (by decide) ?_
  refine lv_iadd hx hb dL_law_513 ?_
  refine va_sld hx hb hX hbl hbA hS (sc_in (k := 2) (by omega) (by omega)) dL_law_514 ?_
  refine lv_topi (fun a5 ea5 => ?_)
  obtain rfl : a2 = a5 := ea2.trans ea5.symm
  obtain ⟨r6, hf6, hq6⟩ := (sX12_seat σm a1 a2 hM)
  have hP := tb_swP hP
  have hD := tb_swD hD
  have hPc := tb_lP hP
  have hDc := tb_lD hD
  have hFc := fr_A hDc hS hA
  refine va_calli (va_runV (As := [.int a1, .int a2]) (rest := []) ⟨hx, hb, hml, hown, hts⟩ (tX12_seat l dC dI cy adm σm a1 a2 H.size r6 hf6) (cwV 2 hts gL_law_X12_seat rfl rfl rfl (by decide +kernel) ⟨Nat.le_of_ble_eq_true rfl, Nat.le_of_ble_eq_true rfl⟩) (wp_V hK hN hPc hDc (va_recv hK hPc (ci := 12) (q0 := 0) rfl (wG_of (by omega) rfl))) rfl rfl hl.1 rfl (lv_room (Nat.le_of_ble_eq_true rfl)) dL_law_515 ⟨by show cells + 0 ≤ 600000; omega, by show slots + 0 ≤ 7302250; omega⟩) hS (fun q _ h => hFc q h) hFc (fun r9 u9 t9 H1 locs ht hvm hw6 hB hz1 hk1 hS => ?_)
  obtain rfl : r6 = r9 := hw6.symm
  obtain ⟨hP1, hD1⟩ := hB
  rw [ht] at hP1
  obtain ⟨hP, hD⟩ := tb_fj hP hD hk1 hFc hP1 hD1
  generalize H1 = H at hP hS ⊢
  have hP := tb_swP hP
  have hD := tb_swD hD
  refine lv_pop hx hb dL_law_518 rfl ?_
  refine lv_goto (tgt := 1635) hx hb dL_law_519 (by decide) ?_
  exact kk τ ad adm σ σm H locs ls _ _ hP hD hS hl hC hM (RelA.fr (a := 0) (b := 0) hR (Fr.rf _) (Fr.rf _) rfl rfl) (by omega) (by omega)

set_option maxHeartbeats 4000000 in
set_option maxRecDepth 100000 in
theorem lawc_10 {p : Program} {l : Launch} {e : Env} {s : State} {m : MethodId} {below : List Frame} {meth : Method} {c : Code} {A : Nat → Prop} {b L : Nat} {xs : Nat → Int32} {dC : Nat → ClassId} {dI : Nat → Nat → Nat} {cy : Nat → ClassId} {t : Nat} (C0 : lw_At p s m meth c b L xs) (hL : L ≤ 3072) (hAe : A = fun q : Nat => s.heap.size ≤ q) (hK : va_K (dC, dI) vwCl (tyl cy) s) (hN : NW s) (hZ : va_Z "SeatsRound" "KIND_ABOVE" "[I" (.ref t) A s s.heap) (hT : va_T .int t 7 (fun j => .int (kaI j)) A s s.heap) {i : Nat} (hi : i + 6 ≤ L) {τ : Nat} {ad adm : Nat → Nat} {σ σm : S2} {H : Heap} {locs : List Loc} {ls : Array Slot} {cells slots : Nat} (hP : va_P (dC, dI) vwCl (wG (cC cy ad τ) ad (182 + 6 * (τ + 1)) σ ++ wG (cM cy adm) adm 40 σm) H) (hD : va_D A (wG (cC cy ad τ) ad (182 + 6 * (τ + 1)) σ ++ wG (cM cy adm) adm 40 σm)) (hS : va_S A s.heap H locs) (hl : lv_has ls 4 [(3, .int (nI i)), (2, .ref (adm 0)), (1, .ref (ad 0)), (0, .ref b)]) (hC : IvC 0 τ σ) (hM : IvM 0 σm) (hR : RelL σ σm) (hc : cells ≤ 228 + i) (hs : slots ≤ 23896 + 353 * i) (kk : ∀ (τ : Nat) (ad adm : Nat → Nat) (σ σm : S2) (H : Heap) (locs : List Loc) (ls : Array Slot) (cells slots : Nat), va_P (dC, dI) vwCl (wG (cC cy ad τ) ad (182 + 6 * (τ + 1)) σ ++ wG (cM cy adm) adm 40 σm) H → va_D A (wG (cC cy ad τ) ad (182 + 6 * (τ + 1)) σ ++ wG (cM cy adm) adm 40 σm) → va_S A s.heap H locs → lv_has ls 4 [(3, .int (nI i)), (2, .ref (adm 0)), (1, .ref (ad 0)), (0, .ref b)] → IvC 0 τ σ → IvM 0 σm → RelL σ σm → cells ≤ 228 + (i + 6) → slots ≤ 23896 + 353 * (i + 6) → W p l e room_1 s m #[Value.ref b] below meth c H locs cells slots (lw_Z below #[Value.ref b] s) (F0 m 1635 ls [])) : W p l e room_1 s m #[Value.ref b] below meth c H locs cells slots (lw_Z below #[Value.ref b] s) (F0 m 522 ls []) := by
  obtain ⟨hx, hb, hr, hml, hown, hts, hX, hbl, hlocks, hgv⟩ := id C0
  have hown : s.vm.findClass RL = some m.cls := hown
  have hts := fun w h => hts w (wsL_law_in w h)
  have hA : ∀ q : Nat, s.heap.size ≤ q → A q := by rw [hAe]; exact fun _ h => h
  have hbA : ¬ A b := by rw [hAe]; exact Nat.not_le.mpr hbl
  have h10 : τ ≤ 10 := by have h9 : 0 ≤ (σ.1 0 6).toInt ∧ (σ.1 0 6).toInt ≤ 10 := hC.1 0 6; have := hC.2.2; omega
  have hC0 := hC
  have hM0 := hM
  refine lv_aload_n hx hb dL_law_522 rfl (lv_at hl 2 rfl) ?_
  refine lv_aload_n hx hb dL_law_523 rfl (lv_at hl 3 rfl) ?_
  refine lv_iload_n hx hb dL_law_524 rfl (lv_at hl 0 rfl) ?_
  refine lv_iconst (v := nI 1) hx hb dL_law_525 (by decide) ?_
  refine lv_iadd hx hb dL_law_526 ?_
  refine va_sld hx hb hX hbl hbA hS (sc_in (k := 1) (by omega) (by omega)) dL_law_527 ?_
  refine lv_topi (fun a1 ea1 => ?_)
  refine lv_aload_n hx hb dL_law_528 rfl (lv_at hl 3 rfl) ?_
  refine lv_iload_n hx hb dL_law_529 rfl (lv_at hl 0 rfl) ?_
  refine lv_iconst (v := nI 2) hx hb dL_law_530 (by decide) ?_
  refine lv_iadd hx hb dL_law_531 ?_
  refine va_sld hx hb hX hbl hbA hS (sc_in (k := 2) (by omega) (by omega)) dL_law_532 ?_
  refine lv_topi (fun a2 ea2 => ?_)
  refine lv_aload_n hx hb dL_law_533 rfl (lv_at hl 3 rfl) ?_
  refine lv_iload_n hx hb dL_law_534 rfl (lv_at hl 0 rfl) ?_
  refine lv_iconst (v := nI 3) hx hb dL_law_535 (by decide) ?_
  refine lv_iadd hx hb dL_law_536 ?_
  refine va_sld hx hb hX hbl hbA hS (sc_in (k := 3) (by omega) (by omega)) dL_law_537 ?_
  refine lv_topi (fun a3 ea3 => ?_)
  obtain ⟨⟨r4, σ4⟩, hf4, hq4⟩ := (sX11_picked τ σ a1 a2 a3 hC)
  have hPc := tb_lP hP
  have hDc := tb_lD hD
  have hFc := fr_A hDc hS hA
  refine va_calli (va_runV (As := [.int a1, .int a2, .int a3]) (rest := []) ⟨hx, hb, hml, hown, hts⟩ (tX11_picked l dC dI cy ad τ (τ + 1) (by omega) σ a1 a2 a3 H.size r4 σ4 hf4) (cwV 3 hts gL_law_X11_picked rfl rfl rfl (by decide +kernel) ⟨Nat.le_of_ble_eq_true rfl, Nat.le_of_ble_eq_true rfl⟩) (wp_V hK hN hPc hDc (va_recv hK hPc (ci := 11) (q0 := 0) rfl (wG_of (by omega) (cC_0 _ _ _ _ _)))) rfl rfl hl.1 rfl (lv_room (Nat.le_of_ble_eq_true rfl)) dL_law_538 ⟨by show cells + 0 ≤ 600000; omega, by show slots + 0 ≤ 7302250; omega⟩) hS (fun q _ h => hFc q h) hFc (fun r9 u9 t9 H1 locs ht hvm hw4 hB hz1 hk1 hS => ?_)
  obtain rfl : r4 = r9 := hw4.symm
  obtain ⟨hP1, hD1⟩ := hB
  rw [ht] at hP1
  obtain ⟨hP, hD⟩ := tb_fj hP hD hk1 hFc hP1 hD1
  generalize H1 = H at hP hS ⊢
  have hC : IvC 0 τ σ4 := by first | exact hq4 | exact hq4.1
  refine lv_pop hx hb dL_law_541 rfl ?_
  refine lv_aload_n hx hb dL_law_542 rfl (lv_at hl 1 rfl) ?_
  refine lv_aload_n hx hb dL_law_543 rfl (lv_at hl 3 rfl) ?_
  refine lv_iload_n hx hb dL_law_544 rfl (lv_at hl 0 rfl) ?_
  refine lv_iconst (v := nI 1) hx hb dL_law_545 (by decide) ?_
  refine lv_iadd hx hb dL_law_546 ?_
  refine va_sld hx hb hX hbl hbA hS (sc_in (k := 1) (by omega) (by omega)) dL_law_547 ?_
  refine lv_topi (fun a5 ea5 => ?_)
  obtain rfl : a1 = a5 := ea1.trans ea5.symm
  refine lv_aload_n hx hb dL_law_548 rfl (lv_at hl 3 rfl) ?_
  refine lv_iload_n hx hb dL_law_549 rfl (lv_at hl 0 rfl) ?_
  refine lv_iconst (v := nI 2) hx hb dL_law_550 (by decide) ?_
  refine lv_iadd hx hb dL_law_551 ?_
  refine va_sld hx hb hX hbl hbA hS (sc_in (k := 2) (by omega) (by omega)) dL_law_552 ?_
  refine lv_topi (fun a6 ea6 => ?_)
  obtain rfl : a2 = a6 := ea2.trans ea6.symm
  refine lv_aload_n hx hb dL_law_553 rfl (lv_at hl 3 rfl) ?_
  refine lv_iload_n hx hb dL_law_554 rfl (lv_at hl 0 rfl) ?_
  refine lv_iconst (v := nI 3) hx hb dL_law_555 (by decide) ?_
  refine lv_iadd hx hb dL_law_556 ?_
  refine va_sld hx hb hX hbl hbA hS (sc_in (k := 3) (by omega) (by omega)) dL_law_557 ?_
  refine lv_topi (fun a7 ea7 => ?_)
  obtain rfl : a3 = a7 := ea3.trans ea7.symm
  obtain ⟨⟨r8, ρ8⟩, hf8, hq8⟩ := (sX12_picked σm a1 a2 a3 hM)
  have hP := tb_swP hP
  have hD := tb_swD hD
  have hPc := tb_lP hP
  have hDc := tb_lD hD
  have hFc := fr_A hDc hS hA
  refine va_calli (va_runV (As := [.int a1, .int a2, .int a3]) (rest := []) ⟨hx, hb, hml, hown, hts⟩ (tX12_picked l dC dI cy adm σm a1 a2 a3 H.size r8 ρ8 hf8) (cwV 3 hts gL_law_X12_picked rfl rfl rfl (by decide +kernel) ⟨Nat.le_of_ble_eq_true rfl, Nat.le_of_ble_eq_true rfl⟩) (wp_V hK hN hPc hDc (va_recv hK hPc (ci := 12) (q0 := 0) rfl (wG_of (by omega) rfl))) rfl rfl hl.1 rfl (lv_room (Nat.le_of_ble_eq_true rfl)) dL_law_558 ⟨by show cells + 0 ≤ 600000; omega, by show slots + 0 ≤ 7302250; omega⟩) hS (fun q _ h => hFc q h) hFc (fun r9 u9 t9 H1 locs ht hvm hw8 hB hz1 hk1 hS => ?_)
  obtain rfl : r8 = r9 := hw8.symm
  obtain ⟨hP1, hD1⟩ := hB
  rw [ht] at hP1
  obtain ⟨hP, hD⟩ := tb_fj hP hD hk1 hFc hP1 hD1
  generalize H1 = H at hP hS ⊢
  have hP := tb_swP hP
  have hD := tb_swD hD
  have hM : IvM 0 ρ8 := by first | exact hq8 | exact hq8.1
  refine lv_pop hx hb dL_law_561 rfl ?_
  refine lv_goto (tgt := 1635) hx hb dL_law_562 (by decide) ?_
  exact kk τ ad adm σ4 ρ8 H locs ls _ _ hP hD hS hl hC hM (RelA.fr (a := 1) (b := 1) hR (wfX11_picked (m := 1) rfl _ _ _ _ _ (Fr.rf _) _ hf4) (wfX12_picked (m := 1) rfl _ _ _ _ (Fr.rf _) _ hf8) rfl rfl) (by omega) (by omega)

set_option maxHeartbeats 4000000 in
set_option maxRecDepth 100000 in
theorem lawc_11 {p : Program} {l : Launch} {e : Env} {s : State} {m : MethodId} {below : List Frame} {meth : Method} {c : Code} {A : Nat → Prop} {b L : Nat} {xs : Nat → Int32} {dC : Nat → ClassId} {dI : Nat → Nat → Nat} {cy : Nat → ClassId} {t : Nat} (C0 : lw_At p s m meth c b L xs) (hL : L ≤ 3072) (hAe : A = fun q : Nat => s.heap.size ≤ q) (hK : va_K (dC, dI) vwCl (tyl cy) s) (hN : NW s) (hZ : va_Z "SeatsRound" "KIND_ABOVE" "[I" (.ref t) A s s.heap) (hT : va_T .int t 7 (fun j => .int (kaI j)) A s s.heap) {i : Nat} (hi : i + 6 ≤ L) {τ : Nat} {ad adm : Nat → Nat} {σ σm : S2} {H : Heap} {locs : List Loc} {ls : Array Slot} {cells slots : Nat} (hP : va_P (dC, dI) vwCl (wG (cC cy ad τ) ad (182 + 6 * (τ + 1)) σ ++ wG (cM cy adm) adm 40 σm) H) (hD : va_D A (wG (cC cy ad τ) ad (182 + 6 * (τ + 1)) σ ++ wG (cM cy adm) adm 40 σm)) (hS : va_S A s.heap H locs) (hl : lv_has ls 4 [(3, .int (nI i)), (2, .ref (adm 0)), (1, .ref (ad 0)), (0, .ref b)]) (hC : IvC 0 τ σ) (hM : IvM 0 σm) (hR : RelL σ σm) (hc : cells ≤ 228 + i) (hs : slots ≤ 23896 + 353 * i) (kk : ∀ (τ : Nat) (ad adm : Nat → Nat) (σ σm : S2) (H : Heap) (locs : List Loc) (ls : Array Slot) (cells slots : Nat), va_P (dC, dI) vwCl (wG (cC cy ad τ) ad (182 + 6 * (τ + 1)) σ ++ wG (cM cy adm) adm 40 σm) H → va_D A (wG (cC cy ad τ) ad (182 + 6 * (τ + 1)) σ ++ wG (cM cy adm) adm 40 σm) → va_S A s.heap H locs → lv_has ls 4 [(3, .int (nI i)), (2, .ref (adm 0)), (1, .ref (ad 0)), (0, .ref b)] → IvC 0 τ σ → IvM 0 σm → RelL σ σm → cells ≤ 228 + (i + 6) → slots ≤ 23896 + 353 * (i + 6) → W p l e room_1 s m #[Value.ref b] below meth c H locs cells slots (lw_Z below #[Value.ref b] s) (F0 m 1635 ls [])) : W p l e room_1 s m #[Value.ref b] below meth c H locs cells slots (lw_Z below #[Value.ref b] s) (F0 m 565 ls []) := by
  obtain ⟨hx, hb, hr, hml, hown, hts, hX, hbl, hlocks, hgv⟩ := id C0
  have hown : s.vm.findClass RL = some m.cls := hown
  have hts := fun w h => hts w (wsL_law_in w h)
  have hA : ∀ q : Nat, s.heap.size ≤ q → A q := by rw [hAe]; exact fun _ h => h
  have hbA : ¬ A b := by rw [hAe]; exact Nat.not_le.mpr hbl
  have h10 : τ ≤ 10 := by have h9 : 0 ≤ (σ.1 0 6).toInt ∧ (σ.1 0 6).toInt ≤ 10 := hC.1 0 6; have := hC.2.2; omega
  have hC0 := hC
  have hM0 := hM
  refine lv_aload_n hx hb dL_law_565 rfl (lv_at hl 2 rfl) ?_
  refine lv_aload_n hx hb dL_law_566 rfl (lv_at hl 3 rfl) ?_
  refine lv_iload_n hx hb dL_law_567 rfl (lv_at hl 0 rfl) ?_
  refine lv_iconst (v := nI 1) hx hb dL_law_568 (by decide) ?_
  refine lv_iadd hx hb dL_law_569 ?_
  refine va_sld hx hb hX hbl hbA hS (sc_in (k := 1) (by omega) (by omega)) dL_law_570 ?_
  refine lv_topi (fun a1 ea1 => ?_)
  refine lv_aload_n hx hb dL_law_571 rfl (lv_at hl 3 rfl) ?_
  refine lv_iload_n hx hb dL_law_572 rfl (lv_at hl 0 rfl) ?_
  refine lv_iconst (v := nI 2) hx hb dL_law_573 (by decide) ?_
  refine lv_iadd hx hb dL_law_574 ?_
  refine va_sld hx hb hX hbl hbA hS (sc_in (k := 2) (by omega) (by omega)) dL_law_575 ?_
  refine lv_topi (fun a2 ea2 => ?_)
  refine lv_aload_n hx hb dL_law_576 rfl (lv_at hl 3 rfl) ?_
  refine lv_iload_n hx hb dL_law_577 rfl (lv_at hl 0 rfl) ?_
  refine lv_iconst (v := nI 3) hx hb dL_law_578 (by decide) ?_
  refine lv_iadd hx hb dL_law_579 ?_
  refine va_sld hx hb hX hbl hbA hS (sc_in (k := 3) (by omega) (by omega)) dL_law_580 ?_
  refine lv_topi (fun a3 ea3 => ?_)
  obtain ⟨⟨r4, σ4⟩, hf4, hq4⟩ := (sX11_keeperOf τ σ a1 a2 a3 hC)
  have hPc := tb_lP hP
  have hDc := tb_lD hD
  have hFc := fr_A hDc hS hA
  refine va_calli (va_runV (As := [.int a1, .int a2, .int a3]) (rest := []) ⟨hx, hb, hml, hown, hts⟩ (tX11_keeperOf l dC dI cy ad τ (τ + 1) (by omega) σ a1 a2 a3 H.size r4 σ4 hf4) (cwV 3 hts gL_law_X11_keeperOf rfl rfl rfl (by decide +kernel) ⟨Nat.le_of_ble_eq_true rfl, Nat.le_of_ble_eq_true rfl⟩) (wp_V hK hN hPc hDc (va_recv hK hPc (ci := 11) (q0 := 0) rfl (wG_of (by omega) (cC_0 _ _ _ _ _)))) rfl rfl hl.1 rfl (lv_room (Nat.le_of_ble_eq_true rfl)) dL_law_581 ⟨by show cells + 0 ≤ 600000; omega, by show slots + 0 ≤ 7302250; omega⟩) hS (fun q _ h => hFc q h) hFc (fun r9 u9 t9 H1 locs ht hvm hw4 hB hz1 hk1 hS => ?_)
  obtain rfl : r4 = r9 := hw4.symm
  obtain ⟨hP1, hD1⟩ := hB
  rw [ht] at hP1
  obtain ⟨hP, hD⟩ := tb_fj hP hD hk1 hFc hP1 hD1
  generalize H1 = H at hP hS ⊢
  have hC : IvC 0 τ σ4 := by first | exact hq4 | exact hq4.1
  refine lv_pop hx hb dL_law_584 rfl ?_
  refine lv_aload_n hx hb dL_law_585 rfl (lv_at hl 1 rfl) ?_
  refine lv_aload_n hx hb dL_law_586 rfl (lv_at hl 3 rfl) ?_
  refine lv_iload_n hx hb dL_law_587 rfl (lv_at hl 0 rfl) ?_
  refine lv_iconst (v := nI 1) hx hb dL_law_588 (by decide) ?_
  refine lv_iadd hx hb dL_law_589 ?_
  refine va_sld hx hb hX hbl hbA hS (sc_in (k := 1) (by omega) (by omega)) dL_law_590 ?_
  refine lv_topi (fun a5 ea5 => ?_)
  obtain rfl : a1 = a5 := ea1.trans ea5.symm
  refine lv_aload_n hx hb dL_law_591 rfl (lv_at hl 3 rfl) ?_
  refine lv_iload_n hx hb dL_law_592 rfl (lv_at hl 0 rfl) ?_
  refine lv_iconst (v := nI 2) hx hb dL_law_593 (by decide) ?_
  refine lv_iadd hx hb dL_law_594 ?_
  refine va_sld hx hb hX hbl hbA hS (sc_in (k := 2) (by omega) (by omega)) dL_law_595 ?_
  refine lv_topi (fun a6 ea6 => ?_)
  obtain rfl : a2 = a6 := ea2.trans ea6.symm
  refine lv_aload_n hx hb dL_law_596 rfl (lv_at hl 3 rfl) ?_
  refine lv_iload_n hx hb dL_law_597 rfl (lv_at hl 0 rfl) ?_
  refine lv_iconst (v := nI 3) hx hb dL_law_598 (by decide) ?_
  refine lv_iadd hx hb dL_law_599 ?_
  refine va_sld hx hb hX hbl hbA hS (sc_in (k := 3) (by omega) (by omega)) dL_law_600 ?_
  refine lv_topi (fun a7 ea7 => ?_)
  obtain rfl : a3 = a7 := ea3.trans ea7.symm
  obtain ⟨⟨r8, ρ8⟩, hf8, hq8⟩ := (sX12_keeperOf σm a1 a2 a3 hM)
  have hP := tb_swP hP
  have hD := tb_swD hD
  have hPc := tb_lP hP
  have hDc := tb_lD hD
  have hFc := fr_A hDc hS hA
  refine va_calli (va_runV (As := [.int a1, .int a2, .int a3]) (rest := []) ⟨hx, hb, hml, hown, hts⟩ (tX12_keeperOf l dC dI cy adm σm a1 a2 a3 H.size r8 ρ8 hf8) (cwV 3 hts gL_law_X12_keeperOf rfl rfl rfl (by decide +kernel) ⟨Nat.le_of_ble_eq_true rfl, Nat.le_of_ble_eq_true rfl⟩) (wp_V hK hN hPc hDc (va_recv hK hPc (ci := 12) (q0 := 0) rfl (wG_of (by omega) rfl))) rfl rfl hl.1 rfl (lv_room (Nat.le_of_ble_eq_true rfl)) dL_law_601 ⟨by show cells + 0 ≤ 600000; omega, by show slots + 0 ≤ 7302250; omega⟩) hS (fun q _ h => hFc q h) hFc (fun r9 u9 t9 H1 locs ht hvm hw8 hB hz1 hk1 hS => ?_)
  obtain rfl : r8 = r9 := hw8.symm
  obtain ⟨hP1, hD1⟩ := hB
  rw [ht] at hP1
  obtain ⟨hP, hD⟩ := tb_fj hP hD hk1 hFc hP1 hD1
  generalize H1 = H at hP hS ⊢
  have hP := tb_swP hP
  have hD := tb_swD hD
  have hM : IvM 0 ρ8 := by first | exact hq8 | exact hq8.1
  refine lv_pop hx hb dL_law_604 rfl ?_
  refine lv_goto (tgt := 1635) hx hb dL_law_605 (by decide) ?_
  exact kk τ ad adm σ4 ρ8 H locs ls _ _ hP hD hS hl hC hM (RelA.fr (a := 1) (b := 1) hR (wfX11_keeperOf (m := 1) rfl _ _ _ _ _ (Fr.rf _) _ hf4) (wfX12_keeperOf (m := 1) rfl _ _ _ _ (Fr.rf _) _ hf8) rfl rfl) (by omega) (by omega)

set_option maxHeartbeats 4000000 in
set_option maxRecDepth 100000 in
theorem lawc_12 {p : Program} {l : Launch} {e : Env} {s : State} {m : MethodId} {below : List Frame} {meth : Method} {c : Code} {A : Nat → Prop} {b L : Nat} {xs : Nat → Int32} {dC : Nat → ClassId} {dI : Nat → Nat → Nat} {cy : Nat → ClassId} {t : Nat} (C0 : lw_At p s m meth c b L xs) (hL : L ≤ 3072) (hAe : A = fun q : Nat => s.heap.size ≤ q) (hK : va_K (dC, dI) vwCl (tyl cy) s) (hN : NW s) (hZ : va_Z "SeatsRound" "KIND_ABOVE" "[I" (.ref t) A s s.heap) (hT : va_T .int t 7 (fun j => .int (kaI j)) A s s.heap) {i : Nat} (hi : i + 6 ≤ L) {τ : Nat} {ad adm : Nat → Nat} {σ σm : S2} {H : Heap} {locs : List Loc} {ls : Array Slot} {cells slots : Nat} (hP : va_P (dC, dI) vwCl (wG (cC cy ad τ) ad (182 + 6 * (τ + 1)) σ ++ wG (cM cy adm) adm 40 σm) H) (hD : va_D A (wG (cC cy ad τ) ad (182 + 6 * (τ + 1)) σ ++ wG (cM cy adm) adm 40 σm)) (hS : va_S A s.heap H locs) (hl : lv_has ls 4 [(3, .int (nI i)), (2, .ref (adm 0)), (1, .ref (ad 0)), (0, .ref b)]) (hC : IvC 0 τ σ) (hM : IvM 0 σm) (hR : RelL σ σm) (hc : cells ≤ 228 + i) (hs : slots ≤ 23896 + 353 * i) (kk : ∀ (τ : Nat) (ad adm : Nat → Nat) (σ σm : S2) (H : Heap) (locs : List Loc) (ls : Array Slot) (cells slots : Nat), va_P (dC, dI) vwCl (wG (cC cy ad τ) ad (182 + 6 * (τ + 1)) σ ++ wG (cM cy adm) adm 40 σm) H → va_D A (wG (cC cy ad τ) ad (182 + 6 * (τ + 1)) σ ++ wG (cM cy adm) adm 40 σm) → va_S A s.heap H locs → lv_has ls 4 [(3, .int (nI i)), (2, .ref (adm 0)), (1, .ref (ad 0)), (0, .ref b)] → IvC 0 τ σ → IvM 0 σm → RelL σ σm → cells ≤ 228 + (i + 6) → slots ≤ 23896 + 353 * (i + 6) → W p l e room_1 s m #[Value.ref b] below meth c H locs cells slots (lw_Z below #[Value.ref b] s) (F0 m 1635 ls [])) : W p l e room_1 s m #[Value.ref b] below meth c H locs cells slots (lw_Z below #[Value.ref b] s) (F0 m 608 ls []) := by
  obtain ⟨hx, hb, hr, hml, hown, hts, hX, hbl, hlocks, hgv⟩ := id C0
  have hown : s.vm.findClass RL = some m.cls := hown
  have hts := fun w h => hts w (wsL_law_in w h)
  have hA : ∀ q : Nat, s.heap.size ≤ q → A q := by rw [hAe]; exact fun _ h => h
  have hbA : ¬ A b := by rw [hAe]; exact Nat.not_le.mpr hbl
  have h10 : τ ≤ 10 := by have h9 : 0 ≤ (σ.1 0 6).toInt ∧ (σ.1 0 6).toInt ≤ 10 := hC.1 0 6; have := hC.2.2; omega
  have hC0 := hC
  have hM0 := hM
  refine lv_aload_n hx hb dL_law_608 rfl (lv_at hl 2 rfl) ?_
  refine lv_aload_n hx hb dL_law_609 rfl (lv_at hl 3 rfl) ?_
  refine lv_iload_n hx hb dL_law_610 rfl (lv_at hl 0 rfl) ?_
  refine lv_iconst (v := nI 1) hx hb dL_law_611 (by decide) ?_
  refine lv_iadd hx hb dL_law_612 ?_
  refine va_sld hx hb hX hbl hbA hS (sc_in (k := 1) (by omega) (by omega)) dL_law_613 ?_
  refine lv_topi (fun a1 ea1 => ?_)
  obtain ⟨⟨r2, σ2⟩, hf2, hq2⟩ := (sX11_tooFew τ σ a1 hC)
  have hPc := tb_lP hP
  have hDc := tb_lD hD
  have hFc := fr_A hDc hS hA
  refine va_calli (va_runV (As := [.int a1]) (rest := []) ⟨hx, hb, hml, hown, hts⟩ (tX11_tooFew l dC dI cy ad τ (τ + 1) (by omega) σ a1 H.size r2 σ2 hf2) (cwV 1 hts gL_law_X11_tooFew rfl rfl rfl (by decide +kernel) ⟨Nat.le_of_ble_eq_true rfl, Nat.le_of_ble_eq_true rfl⟩) (wp_V hK hN hPc hDc (va_recv hK hPc (ci := 11) (q0 := 0) rfl (wG_of (by omega) (cC_0 _ _ _ _ _)))) rfl rfl hl.1 rfl (lv_room (Nat.le_of_ble_eq_true rfl)) dL_law_614 ⟨by show cells + 0 ≤ 600000; omega, by show slots + 0 ≤ 7302250; omega⟩) hS (fun q _ h => hFc q h) hFc (fun r9 u9 t9 H1 locs ht hvm hw2 hB hz1 hk1 hS => ?_)
  obtain rfl : r2 = r9 := hw2.symm
  obtain ⟨hP1, hD1⟩ := hB
  rw [ht] at hP1
  obtain ⟨hP, hD⟩ := tb_fj hP hD hk1 hFc hP1 hD1
  generalize H1 = H at hP hS ⊢
  have hC : IvC 0 τ σ2 := by first | exact hq2 | exact hq2.1
  refine lv_pop hx hb dL_law_617 rfl ?_
  refine lv_aload_n hx hb dL_law_618 rfl (lv_at hl 1 rfl) ?_
  refine lv_aload_n hx hb dL_law_619 rfl (lv_at hl 3 rfl) ?_
  refine lv_iload_n hx hb dL_law_620 rfl (lv_at hl 0 rfl) ?_
  refine lv_iconst (v := nI 1) hx hb dL_law_621 (by decide) ?_
  refine lv_iadd hx hb dL_law_622 ?_
  refine va_sld hx hb hX hbl hbA hS (sc_in (k := 1) (by omega) (by omega)) dL_law_623 ?_
  refine lv_topi (fun a3 ea3 => ?_)
  obtain rfl : a1 = a3 := ea1.trans ea3.symm
  obtain ⟨⟨r4, ρ4⟩, hf4, hq4⟩ := (sX12_tooFew σm a1 hM)
  have hP := tb_swP hP
  have hD := tb_swD hD
  have hPc := tb_lP hP
  have hDc := tb_lD hD
  have hFc := fr_A hDc hS hA
  refine va_calli (va_runV (As := [.int a1]) (rest := []) ⟨hx, hb, hml, hown, hts⟩ (tX12_tooFew l dC dI cy adm σm a1 H.size r4 ρ4 hf4) (cwV 1 hts gL_law_X12_tooFew rfl rfl rfl (by decide +kernel) ⟨Nat.le_of_ble_eq_true rfl, Nat.le_of_ble_eq_true rfl⟩) (wp_V hK hN hPc hDc (va_recv hK hPc (ci := 12) (q0 := 0) rfl (wG_of (by omega) rfl))) rfl rfl hl.1 rfl (lv_room (Nat.le_of_ble_eq_true rfl)) dL_law_624 ⟨by show cells + 0 ≤ 600000; omega, by show slots + 0 ≤ 7302250; omega⟩) hS (fun q _ h => hFc q h) hFc (fun r9 u9 t9 H1 locs ht hvm hw4 hB hz1 hk1 hS => ?_)
  obtain rfl : r4 = r9 := hw4.symm
  obtain ⟨hP1, hD1⟩ := hB
  rw [ht] at hP1
  obtain ⟨hP, hD⟩ := tb_fj hP hD hk1 hFc hP1 hD1
  generalize H1 = H at hP hS ⊢
  have hP := tb_swP hP
  have hD := tb_swD hD
  have hM : IvM 0 ρ4 := by first | exact hq4 | exact hq4.1
  refine lv_pop hx hb dL_law_627 rfl ?_
  refine lv_goto (tgt := 1635) hx hb dL_law_628 (by decide) ?_
  exact kk τ ad adm σ2 ρ4 H locs ls _ _ hP hD hS hl hC hM (RelA.fr (a := 1) (b := 1) hR (wfX11_tooFew (m := 1) rfl _ _ _ (Fr.rf _) _ hf2) (wfX12_tooFew (m := 1) rfl _ _ (Fr.rf _) _ hf4) rfl rfl) (by omega) (by omega)

set_option maxHeartbeats 4000000 in
set_option maxRecDepth 100000 in
theorem lawc_13 {p : Program} {l : Launch} {e : Env} {s : State} {m : MethodId} {below : List Frame} {meth : Method} {c : Code} {A : Nat → Prop} {b L : Nat} {xs : Nat → Int32} {dC : Nat → ClassId} {dI : Nat → Nat → Nat} {cy : Nat → ClassId} {t : Nat} (C0 : lw_At p s m meth c b L xs) (hL : L ≤ 3072) (hAe : A = fun q : Nat => s.heap.size ≤ q) (hK : va_K (dC, dI) vwCl (tyl cy) s) (hN : NW s) (hZ : va_Z "SeatsRound" "KIND_ABOVE" "[I" (.ref t) A s s.heap) (hT : va_T .int t 7 (fun j => .int (kaI j)) A s s.heap) {i : Nat} (hi : i + 6 ≤ L) {τ : Nat} {ad adm : Nat → Nat} {σ σm : S2} {H : Heap} {locs : List Loc} {ls : Array Slot} {cells slots : Nat} (hP : va_P (dC, dI) vwCl (wG (cC cy ad τ) ad (182 + 6 * (τ + 1)) σ ++ wG (cM cy adm) adm 40 σm) H) (hD : va_D A (wG (cC cy ad τ) ad (182 + 6 * (τ + 1)) σ ++ wG (cM cy adm) adm 40 σm)) (hS : va_S A s.heap H locs) (hl : lv_has ls 4 [(3, .int (nI i)), (2, .ref (adm 0)), (1, .ref (ad 0)), (0, .ref b)]) (hC : IvC 0 τ σ) (hM : IvM 0 σm) (hR : RelL σ σm) (hc : cells ≤ 228 + i) (hs : slots ≤ 23896 + 353 * i) (kk : ∀ (τ : Nat) (ad adm : Nat → Nat) (σ σm : S2) (H : Heap) (locs : List Loc) (ls : Array Slot) (cells slots : Nat), va_P (dC, dI) vwCl (wG (cC cy ad τ) ad (182 + 6 * (τ + 1)) σ ++ wG (cM cy adm) adm 40 σm) H → va_D A (wG (cC cy ad τ) ad (182 + 6 * (τ + 1)) σ ++ wG (cM cy adm) adm 40 σm) → va_S A s.heap H locs → lv_has ls 4 [(3, .int (nI i)), (2, .ref (adm 0)), (1, .ref (ad 0)), (0, .ref b)] → IvC 0 τ σ → IvM 0 σm → RelL σ σm → cells ≤ 228 + (i + 6) → slots ≤ 23896 + 353 * (i + 6) → W p l e room_1 s m #[Value.ref b] below meth c H locs cells slots (lw_Z below #[Value.ref b] s) (F0 m 1635 ls [])) : W p l e room_1 s m #[Value.ref b] below meth c H locs cells slots (lw_Z below #[Value.ref b] s) (F0 m 631 ls []) := by
  obtain ⟨hx, hb, hr, hml, hown, hts, hX, hbl, hlocks, hgv⟩ := id C0
  have hown : s.vm.findClass RL = some m.cls := hown
  have hts := fun w h => hts w (wsL_law_in w h)
  have hA : ∀ q : Nat, s.heap.size ≤ q → A q := by rw [hAe]; exact fun _ h => h
  have hbA : ¬ A b := by rw [hAe]; exact Nat.not_le.mpr hbl
  have h10 : τ ≤ 10 := by have h9 : 0 ≤ (σ.1 0 6).toInt ∧ (σ.1 0 6).toInt ≤ 10 := hC.1 0 6; have := hC.2.2; omega
  have hC0 := hC
  have hM0 := hM
  refine lv_aload_n hx hb dL_law_631 rfl (lv_at hl 2 rfl) ?_
  refine lv_aload_n hx hb dL_law_632 rfl (lv_at hl 3 rfl) ?_
  refine lv_iload_n hx hb dL_law_633 rfl (lv_at hl 0 rfl) ?_
  refine lv_iconst (v := nI 1) hx hb dL_law_634 (by decide) ?_
  refine lv_iadd hx hb dL_law_635 ?_
  refine va_sld hx hb hX hbl hbA hS (sc_in (k := 1) (by omega) (by omega)) dL_law_636 ?_
  refine lv_topi (fun a1 ea1 => ?_)
  refine lv_aload_n hx hb dL_law_637 rfl (lv_at hl 3 rfl) ?_
  refine lv_iload_n hx hb dL_law_638 rfl (lv_at hl 0 rfl) ?_
  refine lv_iconst (v := nI 2) hx hb dL_law_639 (by decide) ?_
  refine lv_iadd hx hb dL_law_640 ?_
  refine va_sld hx hb hX hbl hbA hS (sc_in (k := 2) (by omega) (by omega)) dL_law_641 ?_
  refine lv_topi (fun a2 ea2 => ?_)
  refine lv_aload_n hx hb dL_law_642 rfl (lv_at hl 3 rfl) ?_
  refine lv_iload_n hx hb dL_law_643 rfl (lv_at hl 0 rfl) ?_
  refine lv_iconst (v := nI 3) hx hb dL_law_644 (by decide) ?_
  refine lv_iadd hx hb dL_law_645 ?_
  refine va_sld hx hb hX hbl hbA hS (sc_in (k := 3) (by omega) (by omega)) dL_law_646 ?_
  refine lv_topi (fun a3 ea3 => ?_)
  obtain ⟨⟨r4, σ4⟩, hf4, hq4⟩ := (sX11_share τ σ a1 a2 a3 hC)
  have hPc := tb_lP hP
  have hDc := tb_lD hD
  have hFc := fr_A hDc hS hA
  refine va_calli (va_runV (As := [.int a1, .int a2, .int a3]) (rest := []) ⟨hx, hb, hml, hown, hts⟩ (tX11_share l dC dI cy ad τ (τ + 1) (by omega) σ a1 a2 a3 H.size r4 σ4 hf4) (cwV 3 hts gL_law_X11_share rfl rfl rfl (by decide +kernel) ⟨Nat.le_of_ble_eq_true rfl, Nat.le_of_ble_eq_true rfl⟩) (wp_V hK hN hPc hDc (va_recv hK hPc (ci := 11) (q0 := 0) rfl (wG_of (by omega) (cC_0 _ _ _ _ _)))) rfl rfl hl.1 rfl (lv_room (Nat.le_of_ble_eq_true rfl)) dL_law_647 ⟨by show cells + 0 ≤ 600000; omega, by show slots + 0 ≤ 7302250; omega⟩) hS (fun q _ h => hFc q h) hFc (fun r9 u9 t9 H1 locs ht hvm hw4 hB hz1 hk1 hS => ?_)
  obtain rfl : r4 = r9 := hw4.symm
  obtain ⟨hP1, hD1⟩ := hB
  rw [ht] at hP1
  obtain ⟨hP, hD⟩ := tb_fj hP hD hk1 hFc hP1 hD1
  generalize H1 = H at hP hS ⊢
  have hC : IvC 0 τ σ4 := by first | exact hq4 | exact hq4.1
  refine lv_pop hx hb dL_law_650 rfl ?_
  refine lv_aload_n hx hb dL_law_651 rfl (lv_at hl 1 rfl) ?_
  refine lv_aload_n hx hb dL_law_652 rfl (lv_at hl 3 rfl) ?_
  refine lv_iload_n hx hb dL_law_653 rfl (lv_at hl 0 rfl) ?_
  refine lv_iconst (v := nI 1) hx hb dL_law_654 (by decide) ?_
  refine lv_iadd hx hb dL_law_655 ?_
  refine va_sld hx hb hX hbl hbA hS (sc_in (k := 1) (by omega) (by omega)) dL_law_656 ?_
  refine lv_topi (fun a5 ea5 => ?_)
  obtain rfl : a1 = a5 := ea1.trans ea5.symm
  refine lv_aload_n hx hb dL_law_657 rfl (lv_at hl 3 rfl) ?_
  refine lv_iload_n hx hb dL_law_658 rfl (lv_at hl 0 rfl) ?_
  refine lv_iconst (v := nI 2) hx hb dL_law_659 (by decide) ?_
  refine lv_iadd hx hb dL_law_660 ?_
  refine va_sld hx hb hX hbl hbA hS (sc_in (k := 2) (by omega) (by omega)) dL_law_661 ?_
  refine lv_topi (fun a6 ea6 => ?_)
  obtain rfl : a2 = a6 := ea2.trans ea6.symm
  refine lv_aload_n hx hb dL_law_662 rfl (lv_at hl 3 rfl) ?_
  refine lv_iload_n hx hb dL_law_663 rfl (lv_at hl 0 rfl) ?_
  refine lv_iconst (v := nI 3) hx hb dL_law_664 (by decide) ?_
  refine lv_iadd hx hb dL_law_665 ?_
  refine va_sld hx hb hX hbl hbA hS (sc_in (k := 3) (by omega) (by omega)) dL_law_666 ?_
  refine lv_topi (fun a7 ea7 => ?_)
  obtain rfl : a3 = a7 := ea3.trans ea7.symm
  obtain ⟨⟨r8, ρ8⟩, hf8, hq8⟩ := (sX12_share σm a1 a2 a3 hM)
  have hP := tb_swP hP
  have hD := tb_swD hD
  have hPc := tb_lP hP
  have hDc := tb_lD hD
  have hFc := fr_A hDc hS hA
  refine va_calli (va_runV (As := [.int a1, .int a2, .int a3]) (rest := []) ⟨hx, hb, hml, hown, hts⟩ (tX12_share l dC dI cy adm σm a1 a2 a3 H.size r8 ρ8 hf8) (cwV 3 hts gL_law_X12_share rfl rfl rfl (by decide +kernel) ⟨Nat.le_of_ble_eq_true rfl, Nat.le_of_ble_eq_true rfl⟩) (wp_V hK hN hPc hDc (va_recv hK hPc (ci := 12) (q0 := 0) rfl (wG_of (by omega) rfl))) rfl rfl hl.1 rfl (lv_room (Nat.le_of_ble_eq_true rfl)) dL_law_667 ⟨by show cells + 0 ≤ 600000; omega, by show slots + 0 ≤ 7302250; omega⟩) hS (fun q _ h => hFc q h) hFc (fun r9 u9 t9 H1 locs ht hvm hw8 hB hz1 hk1 hS => ?_)
  obtain rfl : r8 = r9 := hw8.symm
  obtain ⟨hP1, hD1⟩ := hB
  rw [ht] at hP1
  obtain ⟨hP, hD⟩ := tb_fj hP hD hk1 hFc hP1 hD1
  generalize H1 = H at hP hS ⊢
  have hP := tb_swP hP
  have hD := tb_swD hD
  have hM : IvM 0 ρ8 := by first | exact hq8 | exact hq8.1
  refine lv_pop hx hb dL_law_670 rfl ?_
  refine lv_goto (tgt := 1635) hx hb dL_law_671 (by decide) ?_
  exact kk τ ad adm σ4 ρ8 H locs ls _ _ hP hD hS hl hC hM (RelA.fr (a := 1024) (b := 1) hR (wfX11_share (m := 1024) rfl _ _ _ _ _ (Fr.rf _) _ hf4) (wfX12_share (m := 1) rfl _ _ _ _ (Fr.rf _) _ hf8) rfl rfl) (by omega) (by omega)
