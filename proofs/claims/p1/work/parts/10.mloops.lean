theorem vz_setP {D : va_G} {cl : List vw_C} {ws : va_W} {H : Heap} {a n : Nat} {cA : ClassId} {f g : Nat → Int32} (hP : va_P D cl ws H) (k : Nat) (hk : ws[k]? = some (a, .inl (cA, n, .inl f))) (h : ∀ j, j < n → f j = g j) : va_P D cl (ws.set k (a, .inl (cA, n, .inl g))) H := by
  intro i q hq
  have hl : k < ws.length := (List.getElem?_eq_some_iff.mp hk).1
  by_cases e : i = k
  · subst e
    rw [List.getElem?_set_self hl] at hq
    cases hq
    have h1 : H[a]? = some (vp_cell cA (n, .inl f)) := hP i _ hk
    show H[a]? = some (vp_cell cA (n, .inl g))
    rw [h1]
    show some (arrV cA n (fun j => Value.int (f j))) = some (arrV cA n (fun j => Value.int (g j)))
    unfold arrV
    have h3 : (fun j : Fin n => Value.int (f j.val)) = (fun j : Fin n => Value.int (g j.val)) := funext fun j => congrArg Value.int (h j.val j.isLt)
    rw [h3]
  · rw [List.getElem?_set_ne (fun h9 => e h9.symm)] at hq
    exact hP i q hq
theorem vz_setD {A : Nat → Prop} {ws : va_W} {a : Nat} {e1 e2 : va_E} (hD : va_D A ws) (k : Nat) (hk : ws[k]? = some (a, e1)) : va_D A (ws.set k (a, e2)) := by
  have hl : k < ws.length := (List.getElem?_eq_some_iff.mp hk).1
  have hh : ∀ (i : Nat) (q : Nat × va_E), (ws.set k (a, e2))[i]? = some q → ∃ e, ws[i]? = some (q.1, e) := by
    intro i q hq
    by_cases e : i = k
    · subst e
      rw [List.getElem?_set_self hl] at hq
      cases hq
      exact ⟨e1, hk⟩
    · rw [List.getElem?_set_ne (fun h9 => e h9.symm)] at hq
      exact ⟨q.2, hq⟩
  refine ⟨fun i j p q hi hj he => ?_, fun i q hi => ?_⟩
  · obtain ⟨x, hx⟩ := hh i p hi
    obtain ⟨y, hy⟩ := hh j q hj
    exact hD.1 i j (p.1, x) (q.1, y) hx hy he
  · obtain ⟨x, hx⟩ := hh i q hi
    exact hD.2 i (q.1, x) hx
section ML
variable {p : Program} {l : Launch} {e : Env} {R : Room} {s : State} {m : MethodId} {args : Array Value} {below : List Frame} {meth : Method} {c : Code} {cells slots : Nat} {Q : State → Prop}
variable {D : va_G} {cy : Nat → ClassId} {A : Nat → Prop} {H0 : Heap} {ws : va_W} {h0 kf k1 : Nat} {fs : List Value}
set_option maxRecDepth 100000 in
theorem m_init_loop (hx : p.tables.exec = Jvm.exec) (hb : c.code = cX12_init) (hts : ∀ w ∈ wsX12_init, w.before args s = true) (hown : s.vm.findClass RX12 = some m.cls) (hK : va_K D vwCl (tyl cy) s) (hw : ws[0]? = some (h0, .inr (12, fs))) (hf : fs[25]? = some (.ref kf)) (hk1 : k1 ≠ 0) (hlen : k1 < ws.length)
    (kx : ∀ (g : Nat → Int32) (H : Heap) (locs : List Loc) (ls : Array Slot), va_P D vwCl (ws.set k1 (kf, .inl (cy 0, 480, .inl g))) H → va_D A (ws.set k1 (kf, .inl (cy 0, 480, .inl g))) → va_S A H0 H locs → W p l e R s m args below meth c H locs cells slots Q (F0 m 454 ls [])) :
    ∀ (k i : Nat) (g : Nat → Int32) (H : Heap) (locs : List Loc) (ls : Array Slot), i + k = 480 → va_P D vwCl (ws.set k1 (kf, .inl (cy 0, 480, .inl g))) H → va_D A (ws.set k1 (kf, .inl (cy 0, 480, .inl g))) → va_S A H0 H locs → lv_has ls 2 [(1, .int (nI i)), (0, .ref h0)] → W p l e R s m args below meth c H locs cells slots Q (F0 m 433 ls []) := by
  intro k
  induction k with
  | zero =>
    intro i g H locs ls hi hP hD hS hl
    refine lv_iload_n hx hb dX12_init_433 rfl (lv_at hl 0 rfl) ?_
    refine lv_sipush (v := nI 480) hx hb dX12_init_434 (by decide) ?_
    refine lv_icmp_ge (tgt := 454) hx hb dX12_init_437 (by decide) (fun c1 => ?_) (fun c1 => absurd (nI_le (by omega) (by omega)) c1)
    exact kx g H locs ls hP hD hS
  | succ k ih =>
    intro i g H locs ls hi hP hD hS hl
    refine lv_iload_n hx hb dX12_init_433 rfl (lv_at hl 0 rfl) ?_
    refine lv_sipush (v := nI 480) hx hb dX12_init_434 (by decide) ?_
    refine lv_icmp_ge (tgt := 454) hx hb dX12_init_437 (by decide) (fun c1 => absurd c1 (nI_ge (by omega) (by decide))) (fun c1 => ?_)
    refine lv_aload_n hx hb dX12_init_440 rfl (lv_at hl 1 rfl) ?_
    refine va_get (D := D) (ci := 12) (v := .ref kf) (C := RX12) (T := TX12) (N := 59) hx hb hts (fun _ h9 => List.mem_cons_of_mem _ (List.mem_append_right _ h9)) hown hK hP 0 (by rw [List.getElem?_set_ne hk1]; exact hw) rfl 25 (by decide) (hts (.fieldLink RX12 74 "SeatsRoundModel" "keptFor" "[I") (List.mem_of_getElem? (i := 27) rfl)) (fun _ h9 => h9) hf dX12_init_441 ?_
    refine lv_iload_n hx hb dX12_init_444 rfl (lv_at hl 0 rfl) ?_
    refine lv_bipush (v := -2) hx hb dX12_init_445 (by decide) ?_
    refine va_iast hx hb hK hP hD hS k1 0 (List.getElem?_set_self hlen) rfl (vp_in_nI (n := i) (by omega) (by decide)) dX12_init_447 (fun H locs hP hD hS => ?_)
    rw [List.set_set] at hP hD
    refine lv_iinc (v := nI (i + 1)) (lv' := [(1, .int (nI (i + 1))), (0, .ref h0)]) hx hb dX12_init_448 hl (k := 0) rfl (nI_1 i) (by decide) rfl (fun ls hl => ?_)
    refine lv_goto (tgt := 433) hx hb dX12_init_451 (by decide) ?_
    exact ih (i + 1) _ H locs ls (by omega) hP hD hS hl
set_option maxRecDepth 100000 in
theorem m_row_loop {p0 p1 p2 : Int32} {sN : Nat} (hp0 : p0 = nI sN) (hsN : sN ≤ 5) (hx : p.tables.exec = Jvm.exec) (hb : c.code = cX12_row) (hts : ∀ w ∈ wsX12_row, w.before args s = true) (hown : s.vm.findClass RX12 = some m.cls) (hK : va_K D vwCl (tyl cy) s) (hw : ws[0]? = some (h0, .inr (12, fs))) (hf : fs[42]? = some (.ref kf)) (hk1 : k1 ≠ 0) (hlen : k1 < ws.length)
    (kx : ∀ (g : Nat → Int64) (H : Heap) (locs : List Loc) (ls : Array Slot), va_P D vwCl (ws.set k1 (kf, .inl (cy 4, 360, .inr (.inl g)))) H → va_D A (ws.set k1 (kf, .inl (cy 4, 360, .inr (.inl g)))) → va_S A H0 H locs → W p l e R s m args below meth c H locs cells slots Q (F0 m 81 ls [])) :
    ∀ (k i : Nat) (g : Nat → Int64) (H : Heap) (locs : List Loc) (ls : Array Slot), i + k = 60 → va_P D vwCl (ws.set k1 (kf, .inl (cy 4, 360, .inr (.inl g)))) H → va_D A (ws.set k1 (kf, .inl (cy 4, 360, .inr (.inl g)))) → va_S A H0 H locs → lv_has ls 5 [(4, .int (nI i)), (0, .ref h0), (1, .int p0), (2, .int p1), (3, .int p2)] → W p l e R s m args below meth c H locs cells slots Q (F0 m 55 ls []) := by
  intro k
  induction k with
  | zero =>
    intro i g H locs ls hi hP hD hS hl
    refine lv_iload hx hb dX12_row_55 (lv_at hl 0 rfl) ?_
    refine lv_bipush (v := nI 60) hx hb dX12_row_57 (by decide) ?_
    refine lv_icmp_ge (tgt := 81) hx hb dX12_row_59 (by decide) (fun c1 => ?_) (fun c1 => absurd (nI_le (by omega) (by omega)) c1)
    exact kx g H locs ls hP hD hS
  | succ k ih =>
    intro i g H locs ls hi hP hD hS hl
    refine lv_iload hx hb dX12_row_55 (lv_at hl 0 rfl) ?_
    refine lv_bipush (v := nI 60) hx hb dX12_row_57 (by decide) ?_
    refine lv_icmp_ge (tgt := 81) hx hb dX12_row_59 (by decide) (fun c1 => absurd c1 (nI_ge (by omega) (by decide))) (fun c1 => ?_)
    refine lv_aload_n hx hb dX12_row_62 rfl (lv_at hl 1 rfl) ?_
    refine va_get (D := D) (ci := 12) (v := .ref kf) (C := RX12) (T := TX12) (N := 59) hx hb hts (fun _ h9 => List.mem_cons_of_mem _ (List.mem_append_right _ h9)) hown hK hP 0 (by rw [List.getElem?_set_ne hk1]; exact hw) rfl 42 (by decide) (hts (.fieldLink RX12 111 "SeatsRoundModel" "elements" "[J") (List.mem_of_getElem? (i := 4) rfl)) (fun _ h9 => h9) hf dX12_row_63 ?_
    refine lv_bipush (v := nI 60) hx hb dX12_row_66 (by decide) ?_
    refine lv_iload_n hx hb dX12_row_68 rfl (lv_at hl 2 rfl) ?_
    refine lv_imul hx hb dX12_row_69 ?_
    refine lv_iload hx hb dX12_row_70 (lv_at hl 0 rfl) ?_
    refine lv_iadd hx hb dX12_row_72 ?_
    refine lv_lconst (v := 0) hx hb dX12_row_73 (by decide) ?_
    refine va_last hx hb hK hP hD hS k1 4 (List.getElem?_set_self hlen) rfl (by rw [hp0, pk_mul, nI_add]; exact vp_in_nI (by omega) (by decide)) dX12_row_74 (fun H locs hP hD hS => ?_)
    rw [List.set_set] at hP hD
    refine lv_iinc (v := nI (i + 1)) (lv' := [(4, .int (nI (i + 1))), (0, .ref h0), (1, .int p0), (2, .int p1), (3, .int p2)]) hx hb dX12_row_75 hl (k := 0) rfl (nI_1 i) (by decide) rfl (fun ls hl => ?_)
    refine lv_goto (tgt := 55) hx hb dX12_row_78 (by decide) ?_
    exact ih (i + 1) _ H locs ls (by omega) hP hD hS hl
end ML

