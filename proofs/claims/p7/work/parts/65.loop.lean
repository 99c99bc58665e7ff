set_option maxHeartbeats 4000000 in
set_option maxRecDepth 100000 in
theorem law_loop {p : Program} {l : Launch} {e : Env} {s : State} {m : MethodId} {below : List Frame} {meth : Method} {c : Code} {A : Nat → Prop} {b L : Nat} {xs : Nat → Int32} {dC : Nat → ClassId} {dI : Nat → Nat → Nat} {cy : Nat → ClassId} {t : Nat} (C0 : lw_At p s m meth c b L xs) (hL : L ≤ 3072) (hAe : A = fun q : Nat => s.heap.size ≤ q) (hK : va_K (dC, dI) vwCl (tyl cy) s) (hN : NW s) (hZ : va_Z "SeatsRound" "KIND_ABOVE" "[I" (.ref t) A s s.heap) (hT : va_T .int t 7 (fun j => .int (kaI j)) A s s.heap) : ∀ (k : Nat) (i : Nat) (τ : Nat) (ad adm : Nat → Nat) (σ σm : S2) (H : Heap) (locs : List Loc) (ls : Array Slot) (cells slots : Nat), L < i + 6 * k → i ≤ L → va_P (dC, dI) vwCl (wG (cC cy ad τ) ad (182 + 6 * (τ + 1)) σ ++ wG (cM cy adm) adm 40 σm) H → va_D A (wG (cC cy ad τ) ad (182 + 6 * (τ + 1)) σ ++ wG (cM cy adm) adm 40 σm) → va_S A s.heap H locs → lv_has ls 4 [(3, .int (nI i)), (2, .ref (adm 0)), (1, .ref (ad 0)), (0, .ref b)] → IvC 0 τ σ → IvM 0 σm → RelL σ σm → cells ≤ 228 + i → slots ≤ 23896 + 353 * i → W p l e room_1 s m #[Value.ref b] below meth c H locs cells slots (lw_Z below #[Value.ref b] s) (F0 m 18 ls []) := by
  intro k
  induction k with
  | zero => intro i τ ad adm σ σm H locs ls cells slots h1 h2 hP hD hS hl hC hM hR hc hs; exfalso; omega
  | succ k ih =>
    intro i τ ad adm σ σm H locs ls cells slots h1 h2 hP hD hS hl hC hM hR hc hs
    obtain ⟨hx, hb, hr, hml, hown, hts, hX, hbl, hlocks, hgv⟩ := id C0
    have hown : s.vm.findClass RL = some m.cls := hown
    have hts := fun w h => hts w (wsL_law_in w h)
    have hA : ∀ q : Nat, s.heap.size ≤ q → A q := by rw [hAe]; exact fun _ h => h
    have hbA : ¬ A b := by rw [hAe]; exact Nat.not_le.mpr hbl
    have h10 : τ ≤ 10 := by have h9 : 0 ≤ (σ.1 0 6).toInt ∧ (σ.1 0 6).toInt ≤ 10 := hC.1 0 6; have := hC.2.2; omega
    refine lv_iload_n hx hb dL_law_18 rfl (lv_at hl 0 rfl) ?_
    refine lv_aload_n hx hb dL_law_19 rfl (lv_at hl 3 rfl) ?_
    refine va_slen hx hb hX hbl hbA hS dL_law_20 ?_
    refine lv_bipush (v := nI 6) hx hb dL_law_21 (by decide) ?_
    refine lv_isub hx hb dL_law_23 ?_
    rcases Nat.lt_or_ge L (i + 6) with hend | hgo
    · refine lv_icmp_gt (tgt := 1641) hx hb dL_law_24 (by decide) (fun _ => ?_) (fun c1 => absurd (sl_gt (i := i) (L := L) hend (by omega) h2) c1)
      exact law_out C0 hAe hS (by omega) (by omega)
    · refine lv_icmp_gt (tgt := 1641) hx hb dL_law_24 (by decide) (fun c1 => absurd c1 (sl_le (i := i) (L := L) hgo (by omega))) (fun _ => ?_)
      have kk : ∀ (τ : Nat) (ad adm : Nat → Nat) (σ σm : S2) (H : Heap) (locs : List Loc) (ls : Array Slot) (cells slots : Nat), va_P (dC, dI) vwCl (wG (cC cy ad τ) ad (182 + 6 * (τ + 1)) σ ++ wG (cM cy adm) adm 40 σm) H → va_D A (wG (cC cy ad τ) ad (182 + 6 * (τ + 1)) σ ++ wG (cM cy adm) adm 40 σm) → va_S A s.heap H locs → lv_has ls 4 [(3, .int (nI i)), (2, .ref (adm 0)), (1, .ref (ad 0)), (0, .ref b)] → IvC 0 τ σ → IvM 0 σm → RelL σ σm → cells ≤ 228 + (i + 6) → slots ≤ 23896 + 353 * (i + 6) → W p l e room_1 s m #[Value.ref b] below meth c H locs cells slots (lw_Z below #[Value.ref b] s) (F0 m 1635 ls []) := by
        intro τ ad adm σ σm H locs ls cells slots hP hD hS hl hC hM hR hc hs
        refine lv_iinc (v := nI (i + 6)) (lv' := [(3, .int (nI (i + 6))), (2, .ref (adm 0)), (1, .ref (ad 0)), (0, .ref b)]) hx hb dL_law_1635 hl (k := 0) rfl (sl_inc i) (by decide) rfl (fun ls hl => ?_)
        refine lv_goto (tgt := 18) hx hb dL_law_1638 (by decide) ?_
        exact ih (i + 6) τ ad adm σ σm H locs ls cells slots (by omega) (by omega) hP hD hS hl hC hM hR hc hs
      refine lv_aload_n hx hb dL_law_27 rfl (lv_at hl 3 rfl) ?_
      refine lv_iload_n hx hb dL_law_28 rfl (lv_at hl 0 rfl) ?_
      refine va_sld hx hb hX hbl hbA hS (vp_in_nI (n := i) (by omega) (by omega)) dL_law_29 ?_
      refine lv_bipush (v := 63) hx hb dL_law_30 (by decide) ?_
      refine lv_iand hx hb dL_law_32 ?_
      refine lv_topi (fun x9 ex9 => ?_)
      obtain ⟨j, hj, ej⟩ := pk_andE (xs (Int32.toNatClampNeg (nI i))) (m := 63) 6 (by decide)
      have ex9 : x9 = nI j := ex9.trans ej
      rcases Nat.lt_or_ge j 41 with hj4 | hj4
      · match j, hj4, ex9 with
        | 0, _, ex9 =>
          refine lv_tableIn (off := 179) (tgt := 212) hx hb dL_law_33 (by rw [ex9]; decide) (by rw [ex9]; decide) (by rw [ex9]; rfl) (by decide) ?_
          exact lawc_0 C0 hL hAe hK hN hZ hT hgo hP hD hS hl hC hM hR hc hs kk
        | 1, _, ex9 =>
          refine lv_tableIn (off := 212) (tgt := 245) hx hb dL_law_33 (by rw [ex9]; decide) (by rw [ex9]; decide) (by rw [ex9]; rfl) (by decide) ?_
          exact lawc_1 C0 hL hAe hK hN hZ hT hgo hP hD hS hl hC hM hR hc hs kk
        | 2, _, ex9 =>
          refine lv_tableIn (off := 225) (tgt := 258) hx hb dL_law_33 (by rw [ex9]; decide) (by rw [ex9]; decide) (by rw [ex9]; rfl) (by decide) ?_
          exact lawc_2 C0 hL hAe hK hN hZ hT hgo hP hD hS hl hC hM hR hc hs kk
        | 3, _, ex9 =>
          refine lv_tableIn (off := 258) (tgt := 291) hx hb dL_law_33 (by rw [ex9]; decide) (by rw [ex9]; decide) (by rw [ex9]; rfl) (by decide) ?_
          exact lawc_3 C0 hL hAe hK hN hZ hT hgo hP hD hS hl hC hM hR hc hs kk
        | 4, _, ex9 =>
          refine lv_tableIn (off := 291) (tgt := 324) hx hb dL_law_33 (by rw [ex9]; decide) (by rw [ex9]; decide) (by rw [ex9]; rfl) (by decide) ?_
          exact lawc_4 C0 hL hAe hK hN hZ hT hgo hP hD hS hl hC hM hR hc hs kk
        | 5, _, ex9 =>
          refine lv_tableIn (off := 324) (tgt := 357) hx hb dL_law_33 (by rw [ex9]; decide) (by rw [ex9]; decide) (by rw [ex9]; rfl) (by decide) ?_
          exact lawc_5 C0 hL hAe hK hN hZ hT hgo hP hD hS hl hC hM hR hc hs kk
        | 6, _, ex9 =>
          refine lv_tableIn (off := 357) (tgt := 390) hx hb dL_law_33 (by rw [ex9]; decide) (by rw [ex9]; decide) (by rw [ex9]; rfl) (by decide) ?_
          exact lawc_6 C0 hL hAe hK hN hZ hT hgo hP hD hS hl hC hM hR hc hs kk
        | 7, _, ex9 =>
          refine lv_tableIn (off := 390) (tgt := 423) hx hb dL_law_33 (by rw [ex9]; decide) (by rw [ex9]; decide) (by rw [ex9]; rfl) (by decide) ?_
          exact lawc_7 C0 hL hAe hK hN hZ hT hgo hP hD hS hl hC hM hR hc hs kk
        | 8, _, ex9 =>
          refine lv_tableIn (off := 423) (tgt := 456) hx hb dL_law_33 (by rw [ex9]; decide) (by rw [ex9]; decide) (by rw [ex9]; rfl) (by decide) ?_
          exact lawc_8 C0 hL hAe hK hN hZ hT hgo hP hD hS hl hC hM hR hc hs kk
        | 9, _, ex9 =>
          refine lv_tableIn (off := 456) (tgt := 489) hx hb dL_law_33 (by rw [ex9]; decide) (by rw [ex9]; decide) (by rw [ex9]; rfl) (by decide) ?_
          exact lawc_9 C0 hL hAe hK hN hZ hT hgo hP hD hS hl hC hM hR hc hs kk
        | 10, _, ex9 =>
          refine lv_tableIn (off := 489) (tgt := 522) hx hb dL_law_33 (by rw [ex9]; decide) (by rw [ex9]; decide) (by rw [ex9]; rfl) (by decide) ?_
          exact lawc_10 C0 hL hAe hK hN hZ hT hgo hP hD hS hl hC hM hR hc hs kk
        | 11, _, ex9 =>
          refine lv_tableIn (off := 532) (tgt := 565) hx hb dL_law_33 (by rw [ex9]; decide) (by rw [ex9]; decide) (by rw [ex9]; rfl) (by decide) ?_
          exact lawc_11 C0 hL hAe hK hN hZ hT hgo hP hD hS hl hC hM hR hc hs kk
        | 12, _, ex9 =>
          refine lv_tableIn (off := 575) (tgt := 608) hx hb dL_law_33 (by rw [ex9]; decide) (by rw [ex9]; decide) (by rw [ex9]; rfl) (by decide) ?_
          exact lawc_12 C0 hL hAe hK hN hZ hT hgo hP hD hS hl hC hM hR hc hs kk
        | 13, _, ex9 =>
          refine lv_tableIn (off := 598) (tgt := 631) hx hb dL_law_33 (by rw [ex9]; decide) (by rw [ex9]; decide) (by rw [ex9]; rfl) (by decide) ?_
          exact lawc_13 C0 hL hAe hK hN hZ hT hgo hP hD hS hl hC hM hR hc hs kk
        | 14, _, ex9 =>
          refine lv_tableIn (off := 641) (tgt := 674) hx hb dL_law_33 (by rw [ex9]; decide) (by rw [ex9]; decide) (by rw [ex9]; rfl) (by decide) ?_
          exact lawc_14 C0 hL hAe hK hN hZ hT hgo hP hD hS hl hC hM hR hc hs kk
        | 15, _, ex9 =>
          refine lv_tableIn (off := 684) (tgt := 717) hx hb dL_law_33 (by rw [ex9]; decide) (by rw [ex9]; decide) (by rw [ex9]; rfl) (by decide) ?_
          exact lawc_15 C0 hL hAe hK hN hZ hT hgo hP hD hS hl hC hM hR hc hs kk
        | 16, _, ex9 =>
          refine lv_tableIn (off := 717) (tgt := 750) hx hb dL_law_33 (by rw [ex9]; decide) (by rw [ex9]; decide) (by rw [ex9]; rfl) (by decide) ?_
          exact lawc_16 C0 hL hAe hK hN hZ hT hgo hP hD hS hl hC hM hR hc hs kk
        | 17, _, ex9 =>
          refine lv_tableIn (off := 750) (tgt := 783) hx hb dL_law_33 (by rw [ex9]; decide) (by rw [ex9]; decide) (by rw [ex9]; rfl) (by decide) ?_
          exact lawc_17 C0 hL hAe hK hN hZ hT hgo hP hD hS hl hC hM hR hc hs kk
        | 18, _, ex9 =>
          refine lv_tableIn (off := 783) (tgt := 816) hx hb dL_law_33 (by rw [ex9]; decide) (by rw [ex9]; decide) (by rw [ex9]; rfl) (by decide) ?_
          exact lawc_18 C0 hL hAe hK hN hZ hT hgo hP hD hS hl hC hM hR hc hs kk
        | 19, _, ex9 =>
          refine lv_tableIn (off := 826) (tgt := 859) hx hb dL_law_33 (by rw [ex9]; decide) (by rw [ex9]; decide) (by rw [ex9]; rfl) (by decide) ?_
          exact lawc_19 C0 hL hAe hK hN hZ hT hgo hP hD hS hl hC hM hR hc hs kk
        | 20, _, ex9 =>
          refine lv_tableIn (off := 859) (tgt := 892) hx hb dL_law_33 (by rw [ex9]; decide) (by rw [ex9]; decide) (by rw [ex9]; rfl) (by decide) ?_
          exact lawc_20 C0 hL hAe hK hN hZ hT hgo hP hD hS hl hC hM hR hc hs kk
        | 21, _, ex9 =>
          refine lv_tableIn (off := 902) (tgt := 935) hx hb dL_law_33 (by rw [ex9]; decide) (by rw [ex9]; decide) (by rw [ex9]; rfl) (by decide) ?_
          exact lawc_21 C0 hL hAe hK hN hZ hT hgo hP hD hS hl hC hM hR hc hs kk
        | 22, _, ex9 =>
          refine lv_tableIn (off := 925) (tgt := 958) hx hb dL_law_33 (by rw [ex9]; decide) (by rw [ex9]; decide) (by rw [ex9]; rfl) (by decide) ?_
          exact lawc_22 C0 hL hAe hK hN hZ hT hgo hP hD hS hl hC hM hR hc hs kk
        | 23, _, ex9 =>
          refine lv_tableIn (off := 968) (tgt := 1001) hx hb dL_law_33 (by rw [ex9]; decide) (by rw [ex9]; decide) (by rw [ex9]; rfl) (by decide) ?_
          exact lawc_23 C0 hL hAe hK hN hZ hT hgo hP hD hS hl hC hM hR hc hs kk
        | 24, _, ex9 =>
          refine lv_tableIn (off := 1011) (tgt := 1044) hx hb dL_law_33 (by rw [ex9]; decide) (by rw [ex9]; decide) (by rw [ex9]; rfl) (by decide) ?_
          exact lawc_24 C0 hL hAe hK hN hZ hT hgo hP hD hS hl hC hM hR hc hs kk
        | 25, _, ex9 =>
          refine lv_tableIn (off := 1064) (tgt := 1097) hx hb dL_law_33 (by rw [ex9]; decide) (by rw [ex9]; decide) (by rw [ex9]; rfl) (by decide) ?_
          exact lawc_25 C0 hL hAe hK hN hZ hT hgo hP hD hS hl hC hM hR hc hs kk
        | 26, _, ex9 =>
          refine lv_tableIn (off := 1087) (tgt := 1120) hx hb dL_law_33 (by rw [ex9]; decide) (by rw [ex9]; decide) (by rw [ex9]; rfl) (by decide) ?_
          exact lawc_26 C0 hL hAe hK hN hZ hT hgo hP hD hS hl hC hM hR hc hs kk
        | 27, _, ex9 =>
          refine lv_tableIn (off := 1110) (tgt := 1143) hx hb dL_law_33 (by rw [ex9]; decide) (by rw [ex9]; decide) (by rw [ex9]; rfl) (by decide) ?_
          exact lawc_27 C0 hL hAe hK hN hZ hT hgo hP hD hS hl hC hM hR hc hs kk
        | 28, _, ex9 =>
          refine lv_tableIn (off := 1133) (tgt := 1166) hx hb dL_law_33 (by rw [ex9]; decide) (by rw [ex9]; decide) (by rw [ex9]; rfl) (by decide) ?_
          exact lawc_28 C0 hL hAe hK hN hZ hT hgo hP hD hS hl hC hM hR hc hs kk
        | 29, _, ex9 =>
          refine lv_tableIn (off := 1156) (tgt := 1189) hx hb dL_law_33 (by rw [ex9]; decide) (by rw [ex9]; decide) (by rw [ex9]; rfl) (by decide) ?_
          exact lawc_29 C0 hL hAe hK hN hZ hT hgo hP hD hS hl hC hM hR hc hs kk
        | 30, _, ex9 =>
          refine lv_tableIn (off := 1179) (tgt := 1212) hx hb dL_law_33 (by rw [ex9]; decide) (by rw [ex9]; decide) (by rw [ex9]; rfl) (by decide) ?_
          exact lawc_30 C0 hL hAe hK hN hZ hT hgo hP hD hS hl hC hM hR hc hs kk
        | 31, _, ex9 =>
          refine lv_tableIn (off := 1192) (tgt := 1225) hx hb dL_law_33 (by rw [ex9]; decide) (by rw [ex9]; decide) (by rw [ex9]; rfl) (by decide) ?_
          exact lawc_31 C0 hL hAe hK hN hZ hT hgo hP hD hS hl hC hM hR hc hs kk
        | 32, _, ex9 =>
          refine lv_tableIn (off := 1235) (tgt := 1268) hx hb dL_law_33 (by rw [ex9]; decide) (by rw [ex9]; decide) (by rw [ex9]; rfl) (by decide) ?_
          exact lawc_32 C0 hL hAe hK hN hZ hT hgo hP hD hS hl hC hM hR hc hs kk
        | 33, _, ex9 =>
          refine lv_tableIn (off := 1258) (tgt := 1291) hx hb dL_law_33 (by rw [ex9]; decide) (by rw [ex9]; decide) (by rw [ex9]; rfl) (by decide) ?_
          exact lawc_33 C0 hL hAe hK hN hZ hT hgo hP hD hS hl hC hM hR hc hs kk
        | 34, _, ex9 =>
          refine lv_tableIn (off := 1291) (tgt := 1324) hx hb dL_law_33 (by rw [ex9]; decide) (by rw [ex9]; decide) (by rw [ex9]; rfl) (by decide) ?_
          exact lawc_34 C0 hL hAe hK hN hZ hT hgo hP hD hS hl hC hM hR hc hs kk
        | 35, _, ex9 =>
          refine lv_tableIn (off := 1334) (tgt := 1367) hx hb dL_law_33 (by rw [ex9]; decide) (by rw [ex9]; decide) (by rw [ex9]; rfl) (by decide) ?_
          exact lawc_35 C0 hL hAe hK hN hZ hT hgo hP hD hS hl hC hM hR hc hs kk
        | 36, _, ex9 =>
          refine lv_tableIn (off := 1407) (tgt := 1440) hx hb dL_law_33 (by rw [ex9]; decide) (by rw [ex9]; decide) (by rw [ex9]; rfl) (by decide) ?_
          exact lawc_36 C0 hL hAe hK hN hZ hT hgo hP hD hS hl hC hM hR hc hs kk
        | 37, _, ex9 =>
          refine lv_tableIn (off := 1440) (tgt := 1473) hx hb dL_law_33 (by rw [ex9]; decide) (by rw [ex9]; decide) (by rw [ex9]; rfl) (by decide) ?_
          exact lawc_37 C0 hL hAe hK hN hZ hT hgo hP hD hS hl hC hM hR hc hs kk
        | 38, _, ex9 =>
          refine lv_tableIn (off := 1503) (tgt := 1536) hx hb dL_law_33 (by rw [ex9]; decide) (by rw [ex9]; decide) (by rw [ex9]; rfl) (by decide) ?_
          exact lawc_38 C0 hL hAe hK hN hZ hT hgo hP hD hS hl hC hM hR hc hs kk
        | 39, _, ex9 =>
          refine lv_tableIn (off := 1536) (tgt := 1569) hx hb dL_law_33 (by rw [ex9]; decide) (by rw [ex9]; decide) (by rw [ex9]; rfl) (by decide) ?_
          exact lawc_39 C0 hL hAe hK hN hZ hT hgo hP hD hS hl hC hM hR hc hs kk
        | 40, _, ex9 =>
          refine lv_tableIn (off := 1579) (tgt := 1612) hx hb dL_law_33 (by rw [ex9]; decide) (by rw [ex9]; decide) (by rw [ex9]; rfl) (by decide) ?_
          exact lawc_40 C0 hL hAe hK hN hZ hT hgo hP hD hS hl hC hM hR hc hs kk
        | j + 41, hj4, _ => exact absurd hj4 (by omega)
      · refine lv_tableOut (tgt := 1635) hx hb dL_law_33 (Or.inr (by rw [ex9, nI_toInt (by omega)]; omega)) (by decide) ?_
        exact kk τ ad adm σ σm H locs ls cells slots hP hD hS hl hC hM hR (by omega) (by omega)
