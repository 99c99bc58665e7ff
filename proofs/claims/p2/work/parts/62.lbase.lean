theorem hiC_of1 {α : Type} {g τ : Nat} {z : α × S2} (h : IvC g τ z.2) : IvC g τ z.2 := h
theorem sc_in {i k L : Nat} (h : i + k < L) (hL : L ≤ 3072) : vp_in (nI i + nI k) L := by
  rw [show nI i + nI k = nI (i + k) from nI_add i k]
  exact vp_in_nI (by omega) (by omega)
theorem ka_start {s : State} {A : Nat → Prop} {b : Nat} (hA : ∀ a : Nat, a < s.heap.size → ¬ A a) (hgv : (Jvm.Cond.and given_1 narrow_1).before #[Value.ref b] s = true) (hts : ∀ w ∈ lw_tbl, w.before #[Value.ref b] s = true) : ∃ t, va_Z "SeatsRound" "KIND_ABOVE" "[I" (.ref t) A s s.heap ∧ va_T .int t 7 (fun j => .int (kaI j)) A s s.heap := by
  have hs := flat_of_before _ hgv
  have harr : (Cond.arrayOf (.static "SeatsRound" "KIND_ABOVE" "[I") .int).before #[Value.ref b] s = true := hs _ (by decide +kernel)
  have hlen := va_eqt (hs (Cond.eq (.length (.static "SeatsRound" "KIND_ABOVE" "[I")) (.int 7)) (by decide +kernel))
  have he : ∀ j : Nat, j < 7 → (Term.elem (.static "SeatsRound" "KIND_ABOVE" "[I") (.int (Int32.ofNat j))).eval #[Value.ref b] s none [] s = some (.int (kaI j)) := fun j hj => match j, hj with
    | 0, _ => va_eqt (hs (Cond.eq (.elem (.static "SeatsRound" "KIND_ABOVE" "[I") (.int 0)) (.int (-1))) (by decide +kernel))
    | 1, _ => va_eqt (hs (Cond.eq (.elem (.static "SeatsRound" "KIND_ABOVE" "[I") (.int 1)) (.int 0)) (by decide +kernel))
    | 2, _ => va_eqt (hs (Cond.eq (.elem (.static "SeatsRound" "KIND_ABOVE" "[I") (.int 2)) (.int 0)) (by decide +kernel))
    | 3, _ => va_eqt (hs (Cond.eq (.elem (.static "SeatsRound" "KIND_ABOVE" "[I") (.int 3)) (.int 0)) (by decide +kernel))
    | 4, _ => va_eqt (hs (Cond.eq (.elem (.static "SeatsRound" "KIND_ABOVE" "[I") (.int 4)) (.int 0)) (by decide +kernel))
    | 5, _ => va_eqt (hs (Cond.eq (.elem (.static "SeatsRound" "KIND_ABOVE" "[I") (.int 5)) (.int 0)) (by decide +kernel))
    | 6, _ => va_eqt (hs (Cond.eq (.elem (.static "SeatsRound" "KIND_ABOVE" "[I") (.int 6)) (.int 1)) (by decide +kernel))
    | j + 7, hj => absurd hj (by omega)
  obtain ⟨t, ht, hT⟩ := va_Tof (N := 7) (f := fun j => .int (kaI j)) (by decide) harr hlen he hA
  exact ⟨t, va_Zref (hts (.laysStatic "SeatsRound" "KIND_ABOVE" "[I") (by decide +kernel)) (hts (.initialized "SeatsRound") (by decide +kernel)) ht hA, hT⟩
theorem sl_gt {i L : Nat} (h : L < i + 6) (hL : L ≤ 3072) (h2 : i ≤ L) : nI i > Int32.ofNat L - nI 6 := by
  have e1 := nI_toInt (n := i) (by omega)
  have e2 : (Int32.ofNat L).toInt = (L : Int) := nI_toInt (n := L) (by omega)
  have e6 : (nI 6).toInt = 6 := rfl
  refine Int32.lt_iff_toInt_lt.mpr ?_
  rw [i32_sub (by omega) (by omega)]; omega
theorem sl_le {i L : Nat} (h : i + 6 ≤ L) (hL : L ≤ 3072) : ¬ nI i > Int32.ofNat L - nI 6 := fun q => by
  have e1 := nI_toInt (n := i) (by omega)
  have e2 : (Int32.ofNat L).toInt = (L : Int) := nI_toInt (n := L) (by omega)
  have e6 : (nI 6).toInt = 6 := rfl
  have q := Int32.lt_iff_toInt_lt.mp q
  rw [i32_sub (by omega) (by omega)] at q; omega
theorem sl_inc (i : Nat) : nI i + 6 = nI (i + 6) := nI_add i 6
section LAW
variable {p : Program} {l : Launch} {e : Env} {s : State} {m : MethodId} {below : List Frame} {meth : Method} {c : Code} {A : Nat → Prop} {b : Nat} {xs : Nat → Int32} {H : Heap} {locs : List Loc} {ls : Array Slot} {cells slots L : Nat}
theorem law_out (C0 : lw_At p s m meth c b L xs) (hAe : A = fun q : Nat => s.heap.size ≤ q) (hS : va_S A s.heap H locs) (hc : cells ≤ 600000) (hs : slots ≤ 7302250) : W p l e room_1 s m #[Value.ref b] below meth c H locs cells slots (lw_Z below #[Value.ref b] s) (F0 m 1641 ls []) := by
  obtain ⟨hx, hb, hr, hml, hown, hts, hX, hbl, hlocks, hgv⟩ := C0
  refine lv_iconst (v := 1) hx hb dL_law_1641 (by decide) ?_
  refine va_forget (fun q hq => by have h9 := hS.2.2 q hq; rw [hAe] at h9; exact h9) ?_
  refine W.widen (k := 600000) (n := 7302250) hc hs ?_
  exact lw_ret hx hb hr hlocks dL_law_1642
end LAW
