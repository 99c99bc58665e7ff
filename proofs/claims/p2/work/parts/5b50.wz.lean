section WZ
variable {D : va_G} {cl : List vw_C} {A : Nat → Prop} {H : Heap} {X pl rs wr w1 p1 : va_W} {g : Nat × va_E}
theorem wz_eq : (X ++ (g :: rs)) ++ pl = (X ++ [g]) ++ (rs ++ pl) := by simp
theorem wz_eq0 : X ++ (g :: rs) = (X ++ [g]) ++ rs := by simp
theorem wz_eqJ : (wr ++ (w1 ++ p1)) ++ pl = (wr ++ w1) ++ (p1 ++ pl) := by simp
theorem wz_eqJ0 : wr ++ (w1 ++ p1) = (wr ++ w1) ++ p1 := by simp
theorem wz_eqK : (wr ++ w1) ++ pl = wr ++ (w1 ++ pl) := List.append_assoc _ _ _
theorem wz_KP (h : va_P D cl ((wr ++ w1) ++ pl) H) : va_P D cl (wr ++ (w1 ++ pl)) H := wz_eqK ▸ h
theorem wz_KD (h : va_D A ((wr ++ w1) ++ pl)) : va_D A (wr ++ (w1 ++ pl)) := wz_eqK ▸ h
theorem wz_P (h : va_P D cl ((X ++ pl) ++ (g :: rs)) H) : va_P D cl ((X ++ [g]) ++ (rs ++ pl)) H := wz_eq ▸ h.swap
theorem wz_D (h : va_D A ((X ++ pl) ++ (g :: rs))) : va_D A ((X ++ [g]) ++ (rs ++ pl)) := wz_eq ▸ h.swap
theorem wz_P0 (h : va_P D cl (X ++ (g :: rs)) H) : va_P D cl ((X ++ [g]) ++ rs) H := wz_eq0 ▸ h
theorem wz_D0 (h : va_D A (X ++ (g :: rs))) : va_D A ((X ++ [g]) ++ rs) := wz_eq0 ▸ h
theorem wz_JP (h : va_P D cl ((wr ++ (w1 ++ p1)) ++ pl) H) : va_P D cl ((wr ++ w1) ++ (p1 ++ pl)) H := wz_eqJ ▸ h
theorem wz_JD (h : va_D A ((wr ++ (w1 ++ p1)) ++ pl)) : va_D A ((wr ++ w1) ++ (p1 ++ pl)) := wz_eqJ ▸ h
theorem wz_JP0 (h : va_P D cl (wr ++ (w1 ++ p1)) H) : va_P D cl ((wr ++ w1) ++ p1) H := wz_eqJ0 ▸ h
theorem wz_JD0 (h : va_D A (wr ++ (w1 ++ p1))) : va_D A ((wr ++ w1) ++ p1) := wz_eqJ0 ▸ h
end WZ
section FILLint
variable {p : Program} {l : Launch} {e : Env} {R : Room} {s : State} {m : MethodId} {args : Array Value} {below : List Frame} {meth : Method} {c : Code} {locs : List Loc} {cells slots : Nat} {Q : State → Prop}
theorem fill_int_loop {D : va_G} {cy : Nat → ClassId} {A : Nat → Prop} {a n : Nat} {v : Int32} {H0 : Heap} (hn : n < 2 ^ 31) (hx : p.tables.exec = Jvm.exec) (hb : c.code = cJ7_fill_53178) (hK : va_K D vwCl (tyl cy) s)
    (kx : ∀ (g : Nat → Int32) (H : Heap) (locs : List Loc) (ls : Array Slot), (∀ j, j < n → g j = v) → va_P D vwCl [(a, .inl (cy 0, n, .inl g))] H → va_D A [(a, .inl (cy 0, n, .inl g))] → va_S A H0 H locs → W p l e R s m args below meth c H locs cells slots Q (F0 m 20 ls [])) :
    ∀ (k i : Nat) (g : Nat → Int32) (H : Heap) (locs : List Loc) (ls : Array Slot), i + k = n → (∀ j, j < i → g j = v) → va_P D vwCl [(a, .inl (cy 0, n, .inl g))] H → va_D A [(a, .inl (cy 0, n, .inl g))] → va_S A H0 H locs → lv_has ls 4 [(2, .int (nI i)), (3, .int (nI n)), (0, .ref a), (1, .int v)] → W p l e R s m args below meth c H locs cells slots Q (F0 m 5 ls []) := by
  intro k
  induction k with
  | zero =>
    intro i g H locs ls hi hg hP hD hS hl
    refine lv_iload_n hx hb dJ7_fill_53178_5 rfl (lv_at hl 0 rfl) ?_
    refine lv_iload_n hx hb dJ7_fill_53178_6 rfl (lv_at hl 1 rfl) ?_
    refine lv_icmp_ge (tgt := 20) hx hb dJ7_fill_53178_7 (by decide) (fun c1 => ?_) (fun c1 => absurd (nI_le (by omega) (by omega)) c1)
    exact kx g H locs ls (fun j hj => hg j (by omega)) hP hD hS
  | succ k ih =>
    intro i g H locs ls hi hg hP hD hS hl
    refine lv_iload_n hx hb dJ7_fill_53178_5 rfl (lv_at hl 0 rfl) ?_
    refine lv_iload_n hx hb dJ7_fill_53178_6 rfl (lv_at hl 1 rfl) ?_
    refine lv_icmp_ge (tgt := 20) hx hb dJ7_fill_53178_7 (by decide) (fun c1 => absurd c1 (nI_ge (by omega) hn)) (fun c1 => ?_)
    refine lv_aload_n hx hb dJ7_fill_53178_10 rfl (lv_at hl 2 rfl) ?_
    refine lv_iload_n hx hb dJ7_fill_53178_11 rfl (lv_at hl 0 rfl) ?_
    refine lv_iload_n hx hb dJ7_fill_53178_12 rfl (lv_at hl 3 rfl) ?_
    refine va_iast hx hb hK hP hD hS 0 0 rfl rfl (vp_in_nI (n := i) (by omega) hn) dJ7_fill_53178_13 (fun H locs hP hD hS => ?_)
    refine lv_iinc (v := nI (i + 1)) (lv' := [(2, .int (nI (i + 1))), (3, .int (nI n)), (0, .ref a), (1, .int v)]) hx hb dJ7_fill_53178_14 hl (k := 0) rfl (nI_1 i) (by decide) rfl (fun ls hl => ?_)
    refine lv_goto (tgt := 5) hx hb dJ7_fill_53178_17 (by decide) ?_
    refine ih (i + 1) (upd g (nI i).toNatClampNeg v) H locs ls (by omega) (fun j hj => ?_) hP hD hS hl
    rw [nI_clamp (by omega)]
    by_cases h9 : j = i
    · simp [upd, h9]
    · simp [upd, h9]
      exact hg j (by omega)
end FILLint
theorem vz_arr_i {D : va_G} {cl : List vw_C} {H : Heap} {a n : Nat} {cA : ClassId} {f g : Nat → Int32} (h : ∀ j, j < n → f j = g j) (hP : va_P D cl [(a, .inl (cA, n, .inl f))] H) : va_P D cl [(a, .inl (cA, n, .inl g))] H := by
  intro k q hq
  have h0 : k < 1 := (List.getElem?_eq_some_iff.mp hq).1
  obtain rfl : k = 0 := by omega
  cases hq
  have h1 : H[a]? = some (vp_cell cA (n, .inl f)) := hP 0 _ rfl
  show H[a]? = some (vp_cell cA (n, .inl g))
  rw [h1]
  show some (arrV cA n (fun j => Value.int (f j))) = some (arrV cA n (fun j => Value.int (g j)))
  unfold arrV
  have h3 : (fun j : Fin n => Value.int (f j.val)) = (fun j : Fin n => Value.int (g j.val)) := funext fun j => congrArg Value.int (h j.val j.isLt)
  rw [h3]
theorem vz_arr_D_i {A : Nat → Prop} {a n : Nat} {cA : ClassId} {f g : Nat → Int32} (hD : va_D A [(a, .inl (cA, n, .inl f))]) : va_D A [(a, .inl (cA, n, .inl g))] := by
  refine ⟨fun i j p q hi hj _ => ?_, fun k q hk => ?_⟩
  · have h1 : i < 1 := (List.getElem?_eq_some_iff.mp hi).1
    have h2 : j < 1 := (List.getElem?_eq_some_iff.mp hj).1
    omega
  · have h1 : k < 1 := (List.getElem?_eq_some_iff.mp hk).1
    obtain rfl : k = 0 := by omega
    cases hk
    exact hD.2 0 (a, .inl (cA, n, .inl f)) rfl
set_option maxHeartbeats 4000000 in
set_option maxRecDepth 100000 in
theorem c_fill_int (l : Launch) (dC : Nat → ClassId) (dI : Nat → Nat → Nat) (cy : Nat → ClassId) (a n : Nat) (f : Nat → Int32) (v : Int32) (sz : Nat) (hn : n < 2 ^ 31) : Met l yJ7_fill_53178 wsJ7_fill_53178 ({ frames := 1, cells := 0, slots := 0, locals := 23 }) (va_Pc [.ref a, .int v] (wPre (dC, dI) cy [(a, .inl (cy 0, n, .inl f))] sz)) (va_Qv (fun (u : Unit) => True) (fun (u : Unit) t => wAt (dC, dI) (va_A [(a, .inl (cy 0, n, .inl f))] sz) [(a, .inl (cy 0, n, .inl (fun _ => v)))] t) (va_A [(a, .inl (cy 0, n, .inl f))] sz)) 0 0 (va_A [(a, .inl (cy 0, n, .inl f))] sz) := by
  refine Met.ofW (cc := cJ7_fill_53178) (maxL := 4) (ret := none) (by decide) rfl ?_
  intro p e s m args below meth c s₁ B hml hv
  obtain ⟨rfl, hsz, hP, hK, hD0, hN⟩ := hv
  have hx := B.exec
  have hb := B.bytes
  have hr := B.returns
  have hlocks := B.notSynchronized
  subst hsz
  have hD := hD0.self (sz := s.heap.size)
  generalize hAe : va_A [(a, .inl (cy 0, n, .inl f))] s.heap.size = A at hD ⊢
  have hS : va_S A s.heap s.heap [] := va_S.rf
  have hl := lv_entry ([.ref a, .int v]) (n := 4) (Nat.le_of_ble_eq_true rfl)
  rw [lg_entry_eq]
  generalize (lg_sl ([.ref a, .int v]) ++ List.replicate (4 - (lg_sl ([.ref a, .int v])).length) Slot.unset).toArray = ls at hl ⊢
  have hl : lv_has ls 4 [(0, .ref a), (1, .int v)] := hl
  refine lv_iconst (v := 0) hx hb dJ7_fill_53178_0 (by decide) ?_
  refine lv_istore_n (lv' := [(2, .int 0), (0, .ref a), (1, .int v)]) hx hb dJ7_fill_53178_1 rfl hl (by decide) rfl (fun ls hl => ?_)
  refine lv_aload_n hx hb dJ7_fill_53178_2 rfl (lv_at hl 1 rfl) ?_
  refine va_alen (v := nI n) hx hb hK hP 0 0 rfl rfl rfl dJ7_fill_53178_3 ?_
  refine lv_istore_n (lv' := [(3, .int (nI n)), (2, .int 0), (0, .ref a), (1, .int v)]) hx hb dJ7_fill_53178_4 rfl hl (by decide) rfl (fun ls hl => ?_)
  refine fill_int_loop (D := (dC, dI)) (A := A) (H0 := s.heap) (v := v) hn hx hb hK (fun g H locs ls hg hP hD hS => ?_) n 0 f s.heap [] ls (by omega) (fun j hj => absurd hj (by omega)) hP hD hS (lv_sub hl [1, 0, 2, 3] rfl)
  have hP9 := vz_arr_i (g := fun _ => v) hg hP
  have hD9 := vz_arr_D_i (g := fun _ => v) hD
  exact W.vret hx hb hr (fun t ht hW => ⟨⟨(), rfl, trivial, ⟨by rw [ht]; exact hP9, hD9⟩⟩, hS.F ht⟩) hS.2.2 dJ7_fill_53178_20
