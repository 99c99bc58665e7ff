theorem nwl_in : ∀ w ∈ nwl, w ∈ lw_tbl := by decide +kernel
theorem vz_arr_of {s : State} {args : Array Value} {ty : FieldType} (hn : ∀ C, ty ≠ .object C) (h : (Cond.arrayClass ty).before args s = true) : ∃ cA, ArrOfT s cA ty ∧ va_RA s cA ty := by
  obtain ⟨cA, k, comp, h1, h2, h3⟩ := Cond.arrayClass_spec h
  refine ⟨cA, fun N z => ⟨(fun k h => by cases h), k, h2, comp, h3⟩, ?_⟩
  cases ty with
  | object C => exact absurd rfl (hn C)
  | _ => exact h1
theorem vz_grid_of {s : State} {ty : FieldType} (h : va_AOA ty s) : ∃ cA, ArrOfT s cA (.array ty) ∧ va_RA s cA (.array ty) := by
  obtain ⟨comp, cA, k, h1, h2, h3, h4, h5⟩ := Jvm.Stand.arrayOver_specB h
  exact ⟨cA, fun N z => ⟨(fun k h => by cases h), k, h3, comp, h4⟩, h5⟩
theorem vz_tabs_of {s : State} {C : String} (h : va_AO C s) : ∃ cA, ArrOfT s cA (.object C) ∧ va_RA s cA (.object C) := by
  obtain ⟨comp, cA, k, h1, h2, h3, h4, h5⟩ := Cond.arrayOver_spec h
  exact ⟨cA, fun N z => ⟨(fun k h => by cases h), k, h3, comp, h4⟩, k, comp, h3, h4, h1, h5⟩
theorem vz_nw {s : State} {args : Array Value} (hts : ∀ w ∈ lw_tbl, w.before args s = true) : NW s :=
  ⟨fun w hw => nwl_all (fun w => w ∈ lw_tbl → va_Nw w s) (fun _ _ _ _ _ hm => va_Nw.of rfl (hts _ hm)) w hw (nwl_in w hw), va_AO.of (hts (.arrayOver (.object "SeatsRound$Table")) (by decide +kernel)), va_AOA.of (hts (.arrayOver (.array .byte)) (by decide +kernel)), va_AOA.of (hts (.arrayOver (.array .int)) (by decide +kernel)), va_AOA.of (hts (.arrayOver (.array .long)) (by decide +kernel))⟩
theorem vz_known {s : State} {args : Array Value} (hts : ∀ w ∈ lw_tbl, w.before args s = true) : ∃ (dC : Nat → ClassId) (dI : Nat → Nat → Nat) (cy : Nat → ClassId), va_K (dC, dI) vwCl (tyl cy) s := by
  have hN := vz_nw hts
  obtain ⟨c0, iS0, hKn0⟩ := u_known (C := RX0) (T := TX0) (N := 5) (n := 5) hts inX0 (hts (.instantiable RX0 5) (by decide +kernel))
  obtain ⟨c1, iS1, hKn1⟩ := u_known (C := RX1) (T := TX1) (N := 9) (n := 9) hts inX1 (hts (.instantiable RX1 9) (by decide +kernel))
  obtain ⟨c2, iS2, hKn2⟩ := u_known (C := RX2) (T := TX2) (N := 6) (n := 6) hts inX2 (hts (.instantiable RX2 6) (by decide +kernel))
  obtain ⟨c3, iS3, hKn3⟩ := u_known (C := RX3) (T := TX3) (N := 8) (n := 8) hts inX3 (hts (.instantiable RX3 8) (by decide +kernel))
  obtain ⟨c4, iS4, hKn4⟩ := u_known (C := RX4) (T := TX4) (N := 4) (n := 4) hts inX4 (hts (.instantiable RX4 4) (by decide +kernel))
  obtain ⟨c5, iS5, hKn5⟩ := u_known (C := RX5) (T := TX5) (N := 10) (n := 10) hts inX5 (hts (.instantiable RX5 10) (by decide +kernel))
  obtain ⟨c6, iS6, hKn6⟩ := u_known (C := RX6) (T := TX6) (N := 12) (n := 12) hts inX6 (hts (.instantiable RX6 12) (by decide +kernel))
  obtain ⟨c7, iS7, hKn7⟩ := u_known (C := RX7) (T := TX7) (N := 4) (n := 4) hts inX7 (hts (.instantiable RX7 4) (by decide +kernel))
  obtain ⟨c8, iS8, hKn8⟩ := u_known (C := RX8) (T := TX8) (N := 13) (n := 13) hts inX8 (hts (.instantiable RX8 13) (by decide +kernel))
  obtain ⟨c9, iS9, hKn9⟩ := u_known (C := RX9) (T := TX9) (N := 2) (n := 2) hts inX9 (hts (.instantiable RX9 2) (by decide +kernel))
  obtain ⟨c10, iS10, hKn10⟩ := u_known (C := RX10) (T := TX10) (N := 5) (n := 5) hts inX10 (hts (.instantiable RX10 5) (by decide +kernel))
  obtain ⟨c11, iS11, hKn11⟩ := u_known (C := RX11) (T := TX11) (N := 13) (n := 13) hts inX11 (hts (.instantiable RX11 13) (by decide +kernel))
  obtain ⟨c12, iS12, hKn12⟩ := u_known (C := RX12) (T := TX12) (N := 59) (n := 59) hts inX12 (hts (.instantiable RX12 59) (by decide +kernel))
  obtain ⟨a0, ha0, hr0⟩ := vz_arr_of (ty := .int) (fun C h => by cases h) (hts (.arrayClass .int) (by decide +kernel))
  obtain ⟨a1, ha1, hr1⟩ := vz_arr_of (ty := .byte) (fun C h => by cases h) (hts (.arrayClass .byte) (by decide +kernel))
  obtain ⟨a2, ha2, hr2⟩ := vz_arr_of (ty := .boolean) (fun C h => by cases h) (hts (.arrayClass .boolean) (by decide +kernel))
  obtain ⟨a3, ha3, hr3⟩ := vz_arr_of (ty := .short) (fun C h => by cases h) (hts (.arrayClass .short) (by decide +kernel))
  obtain ⟨a4, ha4, hr4⟩ := vz_arr_of (ty := .long) (fun C h => by cases h) (hts (.arrayClass .long) (by decide +kernel))
  obtain ⟨a5, ha5, hr5⟩ := vz_grid_of hN.2.2.1
  obtain ⟨a6, ha6, hr6⟩ := vz_grid_of hN.2.2.2.1
  obtain ⟨a7, ha7, hr7⟩ := vz_grid_of hN.2.2.2.2
  obtain ⟨a8, ha8, hr8⟩ := vz_tabs_of hN.2.1
  refine ⟨fun k => [c0, c1, c2, c3, c4, c5, c6, c7, c8, c9, c10, c11, c12].getD k c0, fun k => [iS0, iS1, iS2, iS3, iS4, iS5, iS6, iS7, iS8, iS9, iS10, iS11, iS12].getD k iS0, fun k => [a0, a1, a2, a3, a4, a5, a6, a7, a8].getD k a0, fun k q hq => ?_, fun k q hq => ?_⟩
  · match k, hq with
    | 0, hq => cases hq; exact hKn0
    | 1, hq => cases hq; exact hKn1
    | 2, hq => cases hq; exact hKn2
    | 3, hq => cases hq; exact hKn3
    | 4, hq => cases hq; exact hKn4
    | 5, hq => cases hq; exact hKn5
    | 6, hq => cases hq; exact hKn6
    | 7, hq => cases hq; exact hKn7
    | 8, hq => cases hq; exact hKn8
    | 9, hq => cases hq; exact hKn9
    | 10, hq => cases hq; exact hKn10
    | 11, hq => cases hq; exact hKn11
    | 12, hq => cases hq; exact hKn12
    | k + 13, hq => simp [vwCl] at hq
  · match k, hq with
    | 0, hq => cases hq; exact ⟨ha0, hr0⟩
    | 1, hq => cases hq; exact ⟨ha1, hr1⟩
    | 2, hq => cases hq; exact ⟨ha2, hr2⟩
    | 3, hq => cases hq; exact ⟨ha3, hr3⟩
    | 4, hq => cases hq; exact ⟨ha4, hr4⟩
    | 5, hq => cases hq; exact ⟨ha5, hr5⟩
    | 6, hq => cases hq; exact ⟨ha6, hr6⟩
    | 7, hq => cases hq; exact ⟨ha7, hr7⟩
    | 8, hq => cases hq; exact ⟨ha8, hr8⟩
    | k + 9, hq => simp [tyl] at hq
set_option maxHeartbeats 4000000 in
set_option maxRecDepth 100000 in
theorem whole_start {p : Program} {e : Env} {s : State} {m : MethodId} {below : List Frame} {meth : Method} {c : Code} (l : Launch) {b L : Nat} {xs : Nat → Int32} (hL : L ≤ 6) (C0 : lw_At p s m meth c b L xs) : W p l e room_1 s m #[Value.ref b] below meth c s.heap [] 0 0 (lw_Z below #[Value.ref b] s) (entryFrame m ([Value.ref b] : List Value).toArray 4) := by
  obtain ⟨hx, hb, hr, hml, hown, hts, hX, hbl, hlocks, hgv⟩ := id C0
  have hown : s.vm.findClass RL = some m.cls := hown
  have hN := vz_nw hts
  obtain ⟨dC, dI, cy, hK⟩ := vz_known hts
  have hts := fun w h => hts w (wsL_law_in w h)
  obtain ⟨A, hAe⟩ : ∃ A : Nat → Prop, A = fun q : Nat => s.heap.size ≤ q := ⟨_, rfl⟩
  have hA : ∀ q : Nat, s.heap.size ≤ q → A q := by rw [hAe]; exact fun _ h => h
  have hbA : ¬ A b := by rw [hAe]; exact Nat.not_le.mpr hbl
  have hS : va_S A s.heap s.heap [] := va_S.rf
  have hP : va_P (dC, dI) vwCl [] s.heap := fun k q h => by simp at h
  have hD : va_D A [] := ⟨fun i j p q h => by simp at h, fun k q h => by simp at h⟩
  have hl := lv_entry ([.ref b]) (n := 4) (Nat.le_of_ble_eq_true rfl)
  rw [lg_entry_eq]
  generalize (lg_sl ([.ref b]) ++ List.replicate (4 - (lg_sl ([.ref b])).length) Slot.unset).toArray = ls at hl ⊢
  have hl : lv_has ls 4 [(0, .ref b)] := hl
  refine va_new (ci := 11) (fs := [.null, .null, .null, .null, .null, .null, .int 0, .null, .null, .null, .null, .null, .null]) (C := RX11) (T := TX11) (N := 13) hx hb hts inlX11 tyX11 tyX11_ok hown (hts (.classLink RL 7 RX11) (by decide +kernel)) (hts (.instantiable RX11 13) (by decide +kernel)) (hts (.initialized RX11) (by decide +kernel)) hK hP hD hS hA rfl (fun j hj => vz_dfX11 j hj) (Nat.le_of_ble_eq_true rfl) (Nat.le_of_ble_eq_true rfl) dL_law_0 (fun q_1 H hP hD hS => ?_)
  have hP : va_P (dC, dI) vwCl [(q_1, .inr (11, [.null, .null, .null, .null, .null, .null, .int 0, .null, .null, .null, .null, .null, .null]))] H := hP
  have hD : va_D A [(q_1, .inr (11, [.null, .null, .null, .null, .null, .null, .int 0, .null, .null, .null, .null, .null, .null]))] := hD
  refine W.widen (k := 1) (n := 13) (Nat.le_of_ble_eq_true rfl) (Nat.le_of_ble_eq_true rfl) ?_
  refine lv_dup hx hb dL_law_3 rfl ?_
  have hPc := hP.sub (ws' := [(q_1, .inr (11, [.null, .null, .null, .null, .null, .null, .int 0, .null, .null, .null, .null, .null, .null]))]) [0] rfl
  have hDc := hD.sub (ws' := [(q_1, .inr (11, [.null, .null, .null, .null, .null, .null, .int 0, .null, .null, .null, .null, .null, .null]))]) [0] (by decide) rfl
  have hFc := va_free (wc := [(q_1, .inr (11, [.null, .null, .null, .null, .null, .null, .int 0, .null, .null, .null, .null, .null, .null]))]) hD hS hA [0] rfl
  refine va_callv (va_runI (As := []) (rest := [.ref q_1]) ⟨hx, hb, hml, hown, hts⟩ (c_SR_init l dC dI cy q_1 H.size) (cwI 0 hts gL_law_X11_init rfl rfl rfl (hts (.initialized RX11) (by decide +kernel)) (hts (.methodLink RL 9 yX11_init) (by decide +kernel)) (hts (.instanceMethod yX11_init) (by decide +kernel)) rfl (by decide +kernel) ⟨Nat.le_of_ble_eq_true rfl, Nat.le_of_ble_eq_true rfl⟩) (wp_S hK hN hPc hDc) rfl rfl hl.1 rfl (lv_room (Nat.le_of_ble_eq_true rfl)) dL_law_4 ⟨Nat.le_of_ble_eq_true rfl, Nat.le_of_ble_eq_true rfl⟩) hS (fun q _ h => hFc q h) hFc (fun u_2 t H1 locs ht hvm hw_2 hB hz1 hk1 hS => ?_)
  obtain ⟨hP1, hD1⟩ := hB
  rw [ht] at hP1
  obtain ⟨hP, hD⟩ := va_join (wr := []) (w1 := [(q_1, .inr (11, [.ref (u_2.1 0), .ref (u_2.1 1), .ref (u_2.1 2), .ref (u_2.1 3), .ref (u_2.1 4), .ref (u_2.1 5), .int 0, .ref (u_2.1 6), .ref (u_2.1 7), .ref (u_2.1 8), .ref (u_2.1 9), .ref (u_2.1 10), .ref (u_2.1 11)])), ((u_2.1 0), .inr (9, [.ref (u_2.1 12), .int 0])), ((u_2.1 12), .inl (cy 1, 80, .inl (fun _ => 0))), ((u_2.1 1), .inr (4, [.ref (u_2.1 13), .ref (u_2.1 14), .ref (u_2.1 15), .int 0])), ((u_2.1 2), .inr (2, [.ref (u_2.1 16), .ref (u_2.1 17), .ref (u_2.1 18), .ref (u_2.1 19), .ref (u_2.1 20), .int 0])), ((u_2.1 16), .inl (cy 0, 12, .inl (fun _ => 0))), ((u_2.1 17), .inl (cy 0, 12, .inl (fun _ => 0))), ((u_2.1 18), .inl (cy 0, 12, .inl (fun _ => 0))), ((u_2.1 19), .inl (cy 0, 12, .inl (fun _ => 0))), ((u_2.1 5), .inl (cy 8, 10, .inr (.inr (.inr (.inr (fun _ => none)))))), ((u_2.1 7), .inr (6, [.ref (u_2.1 21), .ref (u_2.1 22), .ref (u_2.1 23), .ref (u_2.1 24), .ref (u_2.1 25), .ref (u_2.1 26), .ref (u_2.1 27), .ref (u_2.1 28), .int 0, .ref (u_2.1 2), .ref (u_2.1 1), .ref (u_2.1 4)])), ((u_2.1 8), .inr (5, [.ref (u_2.1 29), .int 0, .ref (u_2.1 30), .int 0, .ref (u_2.1 31), .ref (u_2.1 32), .ref (u_2.1 2), .ref (u_2.1 1), .ref (u_2.1 4), .ref (u_2.1 3)])), ((u_2.1 9), .inr (10, [.ref (u_2.1 33), .int 0, .int (-1), .ref (u_2.1 34), .ref (u_2.1 1)])), ((u_2.1 33), .inl (cy 0, 6, .inl (fun _ => 0))), ((u_2.1 10), .inr (0, [.ref (u_2.1 35), .int 0, .int 0, .int 0, .int 0])), ((u_2.1 11), .inr (7, [.ref (u_2.1 36), .ref (u_2.1 37), .ref (u_2.1 38), .ref (u_2.1 39)])), ((u_2.1 38), .inl (cy 0, 6, .inl (fun _ => 0))), ((u_2.1 39), .inl (cy 7, 6, .inr (.inr (.inr (.inr (fun i => if i < 6 then some (u_2.2 i) else none)))))), ((u_2.2 0), .inl (cy 4, 60, .inr (.inl (fun _ => 0)))), ((u_2.2 1), .inl (cy 4, 60, .inr (.inl (fun _ => 0)))), ((u_2.2 2), .inl (cy 4, 60, .inr (.inl (fun _ => 0)))), ((u_2.2 3), .inl (cy 4, 60, .inr (.inl (fun _ => 0)))), ((u_2.2 4), .inl (cy 4, 60, .inr (.inl (fun _ => 0)))), ((u_2.2 5), .inl (cy 4, 60, .inr (.inl (fun _ => 0)))), ((u_2.1 36), .inl (cy 0, 6, .inl (fun _ => (-1)))), ((u_2.1 37), .inl (cy 0, 6, .inl (fun _ => (-1))))]) hP hD [0] [] rfl rfl (by decide) (by decide) hk1 hFc hP1 hD1
  generalize H1 = H at hP hS ⊢
  have hP : va_P (dC, dI) vwCl [(q_1, .inr (11, [.ref (u_2.1 0), .ref (u_2.1 1), .ref (u_2.1 2), .ref (u_2.1 3), .ref (u_2.1 4), .ref (u_2.1 5), .int 0, .ref (u_2.1 6), .ref (u_2.1 7), .ref (u_2.1 8), .ref (u_2.1 9), .ref (u_2.1 10), .ref (u_2.1 11)])), ((u_2.1 0), .inr (9, [.ref (u_2.1 12), .int 0])), ((u_2.1 12), .inl (cy 1, 80, .inl (fun _ => 0))), ((u_2.1 1), .inr (4, [.ref (u_2.1 13), .ref (u_2.1 14), .ref (u_2.1 15), .int 0])), ((u_2.1 2), .inr (2, [.ref (u_2.1 16), .ref (u_2.1 17), .ref (u_2.1 18), .ref (u_2.1 19), .ref (u_2.1 20), .int 0])), ((u_2.1 16), .inl (cy 0, 12, .inl (fun _ => 0))), ((u_2.1 17), .inl (cy 0, 12, .inl (fun _ => 0))), ((u_2.1 18), .inl (cy 0, 12, .inl (fun _ => 0))), ((u_2.1 19), .inl (cy 0, 12, .inl (fun _ => 0))), ((u_2.1 5), .inl (cy 8, 10, .inr (.inr (.inr (.inr (fun _ => none)))))), ((u_2.1 7), .inr (6, [.ref (u_2.1 21), .ref (u_2.1 22), .ref (u_2.1 23), .ref (u_2.1 24), .ref (u_2.1 25), .ref (u_2.1 26), .ref (u_2.1 27), .ref (u_2.1 28), .int 0, .ref (u_2.1 2), .ref (u_2.1 1), .ref (u_2.1 4)])), ((u_2.1 8), .inr (5, [.ref (u_2.1 29), .int 0, .ref (u_2.1 30), .int 0, .ref (u_2.1 31), .ref (u_2.1 32), .ref (u_2.1 2), .ref (u_2.1 1), .ref (u_2.1 4), .ref (u_2.1 3)])), ((u_2.1 9), .inr (10, [.ref (u_2.1 33), .int 0, .int (-1), .ref (u_2.1 34), .ref (u_2.1 1)])), ((u_2.1 33), .inl (cy 0, 6, .inl (fun _ => 0))), ((u_2.1 10), .inr (0, [.ref (u_2.1 35), .int 0, .int 0, .int 0, .int 0])), ((u_2.1 11), .inr (7, [.ref (u_2.1 36), .ref (u_2.1 37), .ref (u_2.1 38), .ref (u_2.1 39)])), ((u_2.1 38), .inl (cy 0, 6, .inl (fun _ => 0))), ((u_2.1 39), .inl (cy 7, 6, .inr (.inr (.inr (.inr (fun i => if i < 6 then some (u_2.2 i) else none)))))), ((u_2.2 0), .inl (cy 4, 60, .inr (.inl (fun _ => 0)))), ((u_2.2 1), .inl (cy 4, 60, .inr (.inl (fun _ => 0)))), ((u_2.2 2), .inl (cy 4, 60, .inr (.inl (fun _ => 0)))), ((u_2.2 3), .inl (cy 4, 60, .inr (.inl (fun _ => 0)))), ((u_2.2 4), .inl (cy 4, 60, .inr (.inl (fun _ => 0)))), ((u_2.2 5), .inl (cy 4, 60, .inr (.inl (fun _ => 0)))), ((u_2.1 36), .inl (cy 0, 6, .inl (fun _ => (-1)))), ((u_2.1 37), .inl (cy 0, 6, .inl (fun _ => (-1))))] H := hP
  have hD : va_D A [(q_1, .inr (11, [.ref (u_2.1 0), .ref (u_2.1 1), .ref (u_2.1 2), .ref (u_2.1 3), .ref (u_2.1 4), .ref (u_2.1 5), .int 0, .ref (u_2.1 6), .ref (u_2.1 7), .ref (u_2.1 8), .ref (u_2.1 9), .ref (u_2.1 10), .ref (u_2.1 11)])), ((u_2.1 0), .inr (9, [.ref (u_2.1 12), .int 0])), ((u_2.1 12), .inl (cy 1, 80, .inl (fun _ => 0))), ((u_2.1 1), .inr (4, [.ref (u_2.1 13), .ref (u_2.1 14), .ref (u_2.1 15), .int 0])), ((u_2.1 2), .inr (2, [.ref (u_2.1 16), .ref (u_2.1 17), .ref (u_2.1 18), .ref (u_2.1 19), .ref (u_2.1 20), .int 0])), ((u_2.1 16), .inl (cy 0, 12, .inl (fun _ => 0))), ((u_2.1 17), .inl (cy 0, 12, .inl (fun _ => 0))), ((u_2.1 18), .inl (cy 0, 12, .inl (fun _ => 0))), ((u_2.1 19), .inl (cy 0, 12, .inl (fun _ => 0))), ((u_2.1 5), .inl (cy 8, 10, .inr (.inr (.inr (.inr (fun _ => none)))))), ((u_2.1 7), .inr (6, [.ref (u_2.1 21), .ref (u_2.1 22), .ref (u_2.1 23), .ref (u_2.1 24), .ref (u_2.1 25), .ref (u_2.1 26), .ref (u_2.1 27), .ref (u_2.1 28), .int 0, .ref (u_2.1 2), .ref (u_2.1 1), .ref (u_2.1 4)])), ((u_2.1 8), .inr (5, [.ref (u_2.1 29), .int 0, .ref (u_2.1 30), .int 0, .ref (u_2.1 31), .ref (u_2.1 32), .ref (u_2.1 2), .ref (u_2.1 1), .ref (u_2.1 4), .ref (u_2.1 3)])), ((u_2.1 9), .inr (10, [.ref (u_2.1 33), .int 0, .int (-1), .ref (u_2.1 34), .ref (u_2.1 1)])), ((u_2.1 33), .inl (cy 0, 6, .inl (fun _ => 0))), ((u_2.1 10), .inr (0, [.ref (u_2.1 35), .int 0, .int 0, .int 0, .int 0])), ((u_2.1 11), .inr (7, [.ref (u_2.1 36), .ref (u_2.1 37), .ref (u_2.1 38), .ref (u_2.1 39)])), ((u_2.1 38), .inl (cy 0, 6, .inl (fun _ => 0))), ((u_2.1 39), .inl (cy 7, 6, .inr (.inr (.inr (.inr (fun i => if i < 6 then some (u_2.2 i) else none)))))), ((u_2.2 0), .inl (cy 4, 60, .inr (.inl (fun _ => 0)))), ((u_2.2 1), .inl (cy 4, 60, .inr (.inl (fun _ => 0)))), ((u_2.2 2), .inl (cy 4, 60, .inr (.inl (fun _ => 0)))), ((u_2.2 3), .inl (cy 4, 60, .inr (.inl (fun _ => 0)))), ((u_2.2 4), .inl (cy 4, 60, .inr (.inl (fun _ => 0)))), ((u_2.2 5), .inl (cy 4, 60, .inr (.inl (fun _ => 0)))), ((u_2.1 36), .inl (cy 0, 6, .inl (fun _ => (-1)))), ((u_2.1 37), .inl (cy 0, 6, .inl (fun _ => (-1))))] := hD
  refine W.widen (k := 188) (n := 7019) (Nat.le_of_ble_eq_true rfl) (Nat.le_of_ble_eq_true rfl) ?_
  refine lv_astore_n (lv' := [(1, .ref q_1), (0, .ref b)]) hx hb dL_law_7 rfl hl (by decide) rfl (fun ls hl => ?_)
  refine va_new (ci := 12) (fs := [.int 0, .null, .null, .int 0, .null, .null, .null, .null, .null, .int 0, .null, .null, .null, .null, .null, .null, .null, .null, .null, .null, .null, .null, .int 0, .null, .null, .null, .null, .null, .null, .int 0, .int 0, .null, .int 0, .null, .int 0, .null, .int 0, .null, .int 0, .null, .null, .null, .null, .null, .int 0, .int 0, .int 0, .int 0, .int 0, .int 0, .int 0, .int 0, .null, .int 0, .null, .int 0, .null, .null, .null]) (C := RX12) (T := TX12) (N := 59) hx hb hts inlX12 tyX12 tyX12_ok hown (hts (.classLink RL 10 RX12) (by decide +kernel)) (hts (.instantiable RX12 59) (by decide +kernel)) (hts (.initialized RX12) (by decide +kernel)) hK hP hD hS hA rfl (fun j hj => vz_dfX12 j hj) (Nat.le_of_ble_eq_true rfl) (Nat.le_of_ble_eq_true rfl) dL_law_8 (fun q_3 H hP hD hS => ?_)
  have hP : va_P (dC, dI) vwCl [(q_1, .inr (11, [.ref (u_2.1 0), .ref (u_2.1 1), .ref (u_2.1 2), .ref (u_2.1 3), .ref (u_2.1 4), .ref (u_2.1 5), .int 0, .ref (u_2.1 6), .ref (u_2.1 7), .ref (u_2.1 8), .ref (u_2.1 9), .ref (u_2.1 10), .ref (u_2.1 11)])), ((u_2.1 0), .inr (9, [.ref (u_2.1 12), .int 0])), ((u_2.1 12), .inl (cy 1, 80, .inl (fun _ => 0))), ((u_2.1 1), .inr (4, [.ref (u_2.1 13), .ref (u_2.1 14), .ref (u_2.1 15), .int 0])), ((u_2.1 2), .inr (2, [.ref (u_2.1 16), .ref (u_2.1 17), .ref (u_2.1 18), .ref (u_2.1 19), .ref (u_2.1 20), .int 0])), ((u_2.1 16), .inl (cy 0, 12, .inl (fun _ => 0))), ((u_2.1 17), .inl (cy 0, 12, .inl (fun _ => 0))), ((u_2.1 18), .inl (cy 0, 12, .inl (fun _ => 0))), ((u_2.1 19), .inl (cy 0, 12, .inl (fun _ => 0))), ((u_2.1 5), .inl (cy 8, 10, .inr (.inr (.inr (.inr (fun _ => none)))))), ((u_2.1 7), .inr (6, [.ref (u_2.1 21), .ref (u_2.1 22), .ref (u_2.1 23), .ref (u_2.1 24), .ref (u_2.1 25), .ref (u_2.1 26), .ref (u_2.1 27), .ref (u_2.1 28), .int 0, .ref (u_2.1 2), .ref (u_2.1 1), .ref (u_2.1 4)])), ((u_2.1 8), .inr (5, [.ref (u_2.1 29), .int 0, .ref (u_2.1 30), .int 0, .ref (u_2.1 31), .ref (u_2.1 32), .ref (u_2.1 2), .ref (u_2.1 1), .ref (u_2.1 4), .ref (u_2.1 3)])), ((u_2.1 9), .inr (10, [.ref (u_2.1 33), .int 0, .int (-1), .ref (u_2.1 34), .ref (u_2.1 1)])), ((u_2.1 33), .inl (cy 0, 6, .inl (fun _ => 0))), ((u_2.1 10), .inr (0, [.ref (u_2.1 35), .int 0, .int 0, .int 0, .int 0])), ((u_2.1 11), .inr (7, [.ref (u_2.1 36), .ref (u_2.1 37), .ref (u_2.1 38), .ref (u_2.1 39)])), ((u_2.1 38), .inl (cy 0, 6, .inl (fun _ => 0))), ((u_2.1 39), .inl (cy 7, 6, .inr (.inr (.inr (.inr (fun i => if i < 6 then some (u_2.2 i) else none)))))), ((u_2.2 0), .inl (cy 4, 60, .inr (.inl (fun _ => 0)))), ((u_2.2 1), .inl (cy 4, 60, .inr (.inl (fun _ => 0)))), ((u_2.2 2), .inl (cy 4, 60, .inr (.inl (fun _ => 0)))), ((u_2.2 3), .inl (cy 4, 60, .inr (.inl (fun _ => 0)))), ((u_2.2 4), .inl (cy 4, 60, .inr (.inl (fun _ => 0)))), ((u_2.2 5), .inl (cy 4, 60, .inr (.inl (fun _ => 0)))), ((u_2.1 36), .inl (cy 0, 6, .inl (fun _ => (-1)))), ((u_2.1 37), .inl (cy 0, 6, .inl (fun _ => (-1)))), (q_3, .inr (12, [.int 0, .null, .null, .int 0, .null, .null, .null, .null, .null, .int 0, .null, .null, .null, .null, .null, .null, .null, .null, .null, .null, .null, .null, .int 0, .null, .null, .null, .null, .null, .null, .int 0, .int 0, .null, .int 0, .null, .int 0, .null, .int 0, .null, .int 0, .null, .null, .null, .null, .null, .int 0, .int 0, .int 0, .int 0, .int 0, .int 0, .int 0, .int 0, .null, .int 0, .null, .int 0, .null, .null, .null]))] H := hP
  have hD : va_D A [(q_1, .inr (11, [.ref (u_2.1 0), .ref (u_2.1 1), .ref (u_2.1 2), .ref (u_2.1 3), .ref (u_2.1 4), .ref (u_2.1 5), .int 0, .ref (u_2.1 6), .ref (u_2.1 7), .ref (u_2.1 8), .ref (u_2.1 9), .ref (u_2.1 10), .ref (u_2.1 11)])), ((u_2.1 0), .inr (9, [.ref (u_2.1 12), .int 0])), ((u_2.1 12), .inl (cy 1, 80, .inl (fun _ => 0))), ((u_2.1 1), .inr (4, [.ref (u_2.1 13), .ref (u_2.1 14), .ref (u_2.1 15), .int 0])), ((u_2.1 2), .inr (2, [.ref (u_2.1 16), .ref (u_2.1 17), .ref (u_2.1 18), .ref (u_2.1 19), .ref (u_2.1 20), .int 0])), ((u_2.1 16), .inl (cy 0, 12, .inl (fun _ => 0))), ((u_2.1 17), .inl (cy 0, 12, .inl (fun _ => 0))), ((u_2.1 18), .inl (cy 0, 12, .inl (fun _ => 0))), ((u_2.1 19), .inl (cy 0, 12, .inl (fun _ => 0))), ((u_2.1 5), .inl (cy 8, 10, .inr (.inr (.inr (.inr (fun _ => none)))))), ((u_2.1 7), .inr (6, [.ref (u_2.1 21), .ref (u_2.1 22), .ref (u_2.1 23), .ref (u_2.1 24), .ref (u_2.1 25), .ref (u_2.1 26), .ref (u_2.1 27), .ref (u_2.1 28), .int 0, .ref (u_2.1 2), .ref (u_2.1 1), .ref (u_2.1 4)])), ((u_2.1 8), .inr (5, [.ref (u_2.1 29), .int 0, .ref (u_2.1 30), .int 0, .ref (u_2.1 31), .ref (u_2.1 32), .ref (u_2.1 2), .ref (u_2.1 1), .ref (u_2.1 4), .ref (u_2.1 3)])), ((u_2.1 9), .inr (10, [.ref (u_2.1 33), .int 0, .int (-1), .ref (u_2.1 34), .ref (u_2.1 1)])), ((u_2.1 33), .inl (cy 0, 6, .inl (fun _ => 0))), ((u_2.1 10), .inr (0, [.ref (u_2.1 35), .int 0, .int 0, .int 0, .int 0])), ((u_2.1 11), .inr (7, [.ref (u_2.1 36), .ref (u_2.1 37), .ref (u_2.1 38), .ref (u_2.1 39)])), ((u_2.1 38), .inl (cy 0, 6, .inl (fun _ => 0))), ((u_2.1 39), .inl (cy 7, 6, .inr (.inr (.inr (.inr (fun i => if i < 6 then some (u_2.2 i) else none)))))), ((u_2.2 0), .inl (cy 4, 60, .inr (.inl (fun _ => 0)))), ((u_2.2 1), .inl (cy 4, 60, .inr (.inl (fun _ => 0)))), ((u_2.2 2), .inl (cy 4, 60, .inr (.inl (fun _ => 0)))), ((u_2.2 3), .inl (cy 4, 60, .inr (.inl (fun _ => 0)))), ((u_2.2 4), .inl (cy 4, 60, .inr (.inl (fun _ => 0)))), ((u_2.2 5), .inl (cy 4, 60, .inr (.inl (fun _ => 0)))), ((u_2.1 36), .inl (cy 0, 6, .inl (fun _ => (-1)))), ((u_2.1 37), .inl (cy 0, 6, .inl (fun _ => (-1)))), (q_3, .inr (12, [.int 0, .null, .null, .int 0, .null, .null, .null, .null, .null, .int 0, .null, .null, .null, .null, .null, .null, .null, .null, .null, .null, .null, .null, .int 0, .null, .null, .null, .null, .null, .null, .int 0, .int 0, .null, .int 0, .null, .int 0, .null, .int 0, .null, .int 0, .null, .null, .null, .null, .null, .int 0, .int 0, .int 0, .int 0, .int 0, .int 0, .int 0, .int 0, .null, .int 0, .null, .int 0, .null, .null, .null]))] := hD
  refine W.widen (k := 189) (n := 7078) (Nat.le_of_ble_eq_true rfl) (Nat.le_of_ble_eq_true rfl) ?_
  refine lv_dup hx hb dL_law_11 rfl ?_
  change W _ _ _ _ _ _ _ _ _ _ _ _ _ _ _ (F0 m 12 ls [.ref q_3, .ref q_3])
  have hPc := hP.sub (ws' := [(q_3, .inr (12, [.int 0, .null, .null, .int 0, .null, .null, .null, .null, .null, .int 0, .null, .null, .null, .null, .null, .null, .null, .null, .null, .null, .null, .null, .int 0, .null, .null, .null, .null, .null, .null, .int 0, .int 0, .null, .int 0, .null, .int 0, .null, .int 0, .null, .int 0, .null, .null, .null, .null, .null, .int 0, .int 0, .int 0, .int 0, .int 0, .int 0, .int 0, .int 0, .null, .int 0, .null, .int 0, .null, .null, .null]))]) [26] rfl
  have hDc := hD.sub (ws' := [(q_3, .inr (12, [.int 0, .null, .null, .int 0, .null, .null, .null, .null, .null, .int 0, .null, .null, .null, .null, .null, .null, .null, .null, .null, .null, .null, .null, .int 0, .null, .null, .null, .null, .null, .null, .int 0, .int 0, .null, .int 0, .null, .int 0, .null, .int 0, .null, .int 0, .null, .null, .null, .null, .null, .int 0, .int 0, .int 0, .int 0, .int 0, .int 0, .int 0, .int 0, .null, .int 0, .null, .int 0, .null, .null, .null]))]) [26] (by decide) rfl
  have hFc := va_free (wc := [(q_3, .inr (12, [.int 0, .null, .null, .int 0, .null, .null, .null, .null, .null, .int 0, .null, .null, .null, .null, .null, .null, .null, .null, .null, .null, .null, .null, .int 0, .null, .null, .null, .null, .null, .null, .int 0, .int 0, .null, .int 0, .null, .int 0, .null, .int 0, .null, .int 0, .null, .null, .null, .null, .null, .int 0, .int 0, .int 0, .int 0, .int 0, .int 0, .int 0, .int 0, .null, .int 0, .null, .int 0, .null, .null, .null]))]) hD hS hA [26] rfl
  refine va_callv (va_runI (As := []) (rest := [.ref q_3]) ⟨hx, hb, hml, hown, hts⟩ (c_M_init l dC dI cy q_3 H.size) (cwI 0 hts gL_law_X12_init rfl rfl rfl (hts (.initialized RX12) (by decide +kernel)) (hts (.methodLink RL 12 yX12_init) (by decide +kernel)) (hts (.instanceMethod yX12_init) (by decide +kernel)) rfl (by decide +kernel) ⟨Nat.le_of_ble_eq_true rfl, Nat.le_of_ble_eq_true rfl⟩) (wp_S hK hN hPc hDc) rfl rfl hl.1 rfl (lv_room (Nat.le_of_ble_eq_true rfl)) dL_law_12 ⟨Nat.le_of_ble_eq_true rfl, Nat.le_of_ble_eq_true rfl⟩) hS (fun q _ h => hFc q h) hFc (fun u_4 t H1 locs ht hvm hw_4 hB hz1 hk1 hS => ?_)
  obtain ⟨hP1, hD1⟩ := hB
  rw [ht] at hP1
  obtain ⟨hP, hD⟩ := va_join (wr := [(q_1, .inr (11, [.ref (u_2.1 0), .ref (u_2.1 1), .ref (u_2.1 2), .ref (u_2.1 3), .ref (u_2.1 4), .ref (u_2.1 5), .int 0, .ref (u_2.1 6), .ref (u_2.1 7), .ref (u_2.1 8), .ref (u_2.1 9), .ref (u_2.1 10), .ref (u_2.1 11)])), ((u_2.1 0), .inr (9, [.ref (u_2.1 12), .int 0])), ((u_2.1 12), .inl (cy 1, 80, .inl (fun _ => 0))), ((u_2.1 1), .inr (4, [.ref (u_2.1 13), .ref (u_2.1 14), .ref (u_2.1 15), .int 0])), ((u_2.1 2), .inr (2, [.ref (u_2.1 16), .ref (u_2.1 17), .ref (u_2.1 18), .ref (u_2.1 19), .ref (u_2.1 20), .int 0])), ((u_2.1 16), .inl (cy 0, 12, .inl (fun _ => 0))), ((u_2.1 17), .inl (cy 0, 12, .inl (fun _ => 0))), ((u_2.1 18), .inl (cy 0, 12, .inl (fun _ => 0))), ((u_2.1 19), .inl (cy 0, 12, .inl (fun _ => 0))), ((u_2.1 5), .inl (cy 8, 10, .inr (.inr (.inr (.inr (fun _ => none)))))), ((u_2.1 7), .inr (6, [.ref (u_2.1 21), .ref (u_2.1 22), .ref (u_2.1 23), .ref (u_2.1 24), .ref (u_2.1 25), .ref (u_2.1 26), .ref (u_2.1 27), .ref (u_2.1 28), .int 0, .ref (u_2.1 2), .ref (u_2.1 1), .ref (u_2.1 4)])), ((u_2.1 8), .inr (5, [.ref (u_2.1 29), .int 0, .ref (u_2.1 30), .int 0, .ref (u_2.1 31), .ref (u_2.1 32), .ref (u_2.1 2), .ref (u_2.1 1), .ref (u_2.1 4), .ref (u_2.1 3)])), ((u_2.1 9), .inr (10, [.ref (u_2.1 33), .int 0, .int (-1), .ref (u_2.1 34), .ref (u_2.1 1)])), ((u_2.1 33), .inl (cy 0, 6, .inl (fun _ => 0))), ((u_2.1 10), .inr (0, [.ref (u_2.1 35), .int 0, .int 0, .int 0, .int 0])), ((u_2.1 11), .inr (7, [.ref (u_2.1 36), .ref (u_2.1 37), .ref (u_2.1 38), .ref (u_2.1 39)])), ((u_2.1 38), .inl (cy 0, 6, .inl (fun _ => 0))), ((u_2.1 39), .inl (cy 7, 6, .inr (.inr (.inr (.inr (fun i => if i < 6 then some (u_2.2 i) else none)))))), ((u_2.2 0), .inl (cy 4, 60, .inr (.inl (fun _ => 0)))), ((u_2.2 1), .inl (cy 4, 60, .inr (.inl (fun _ => 0)))), ((u_2.2 2), .inl (cy 4, 60, .inr (.inl (fun _ => 0)))), ((u_2.2 3), .inl (cy 4, 60, .inr (.inl (fun _ => 0)))), ((u_2.2 4), .inl (cy 4, 60, .inr (.inl (fun _ => 0)))), ((u_2.2 5), .inl (cy 4, 60, .inr (.inl (fun _ => 0)))), ((u_2.1 36), .inl (cy 0, 6, .inl (fun _ => (-1)))), ((u_2.1 37), .inl (cy 0, 6, .inl (fun _ => (-1))))]) (w1 := [(q_3, .inr (12, [.int 0, .ref (u_4.1 0), .ref (u_4.1 1), .int 0, .ref (u_4.1 2), .ref (u_4.1 3), .ref (u_4.1 4), .ref (u_4.1 5), .ref (u_4.1 6), .int 0, .ref (u_4.1 7), .ref (u_4.1 8), .ref (u_4.1 9), .ref (u_4.1 10), .ref (u_4.1 11), .ref (u_4.1 12), .ref (u_4.1 13), .ref (u_4.1 14), .ref (u_4.1 15), .ref (u_4.1 16), .ref (u_4.1 17), .ref (u_4.1 18), .int 0, .ref (u_4.1 19), .ref (u_4.1 20), .ref (u_4.1 21), .ref (u_4.1 22), .ref (u_4.1 23), .ref (u_4.1 24), .int 0, .int 0, .ref (u_4.1 25), .int 0, .ref (u_4.1 26), .int 0, .ref (u_4.1 27), .int (-1), .ref (u_4.1 28), .int 0, .ref (u_4.1 29), .ref (u_4.1 30), .ref (u_4.1 31), .ref (u_4.1 32), .ref (u_4.1 33), .int 0, .int 0, .int 0, .int 0, .int 0, .int 0, .int 0, .int 0, .ref (u_4.1 34), .int 0, .ref (u_4.1 35), .int 0, .ref (u_4.1 36), .ref (u_4.1 37), .ref (u_4.1 38)])), ((u_4.1 2), .inl (cy 0, 12, .inl (fun _ => 0))), ((u_4.1 3), .inl (cy 0, 12, .inl (fun _ => 0))), ((u_4.1 18), .inl (cy 0, 80, .inl (fun _ => 0))), ((u_4.1 27), .inl (cy 0, 6, .inl (fun _ => 0))), ((u_4.1 29), .inl (cy 0, 6, .inl (fun _ => (-1)))), ((u_4.1 30), .inl (cy 0, 6, .inl (fun _ => (-1)))), ((u_4.1 31), .inl (cy 0, 6, .inl (fun _ => 0))), ((u_4.1 32), .inl (cy 4, 360, .inr (.inl (fun _ => 0))))]) hP hD [26] [0, 1, 2, 3, 4, 5, 6, 7, 8, 9, 10, 11, 12, 13, 14, 15, 16, 17, 18, 19, 20, 21, 22, 23, 24, 25] rfl rfl (by decide) (by decide) hk1 hFc hP1 hD1
  generalize H1 = H at hP hS ⊢
  have hP : va_P (dC, dI) vwCl [(q_1, .inr (11, [.ref (u_2.1 0), .ref (u_2.1 1), .ref (u_2.1 2), .ref (u_2.1 3), .ref (u_2.1 4), .ref (u_2.1 5), .int 0, .ref (u_2.1 6), .ref (u_2.1 7), .ref (u_2.1 8), .ref (u_2.1 9), .ref (u_2.1 10), .ref (u_2.1 11)])), ((u_2.1 0), .inr (9, [.ref (u_2.1 12), .int 0])), ((u_2.1 12), .inl (cy 1, 80, .inl (fun _ => 0))), ((u_2.1 1), .inr (4, [.ref (u_2.1 13), .ref (u_2.1 14), .ref (u_2.1 15), .int 0])), ((u_2.1 2), .inr (2, [.ref (u_2.1 16), .ref (u_2.1 17), .ref (u_2.1 18), .ref (u_2.1 19), .ref (u_2.1 20), .int 0])), ((u_2.1 16), .inl (cy 0, 12, .inl (fun _ => 0))), ((u_2.1 17), .inl (cy 0, 12, .inl (fun _ => 0))), ((u_2.1 18), .inl (cy 0, 12, .inl (fun _ => 0))), ((u_2.1 19), .inl (cy 0, 12, .inl (fun _ => 0))), ((u_2.1 5), .inl (cy 8, 10, .inr (.inr (.inr (.inr (fun _ => none)))))), ((u_2.1 7), .inr (6, [.ref (u_2.1 21), .ref (u_2.1 22), .ref (u_2.1 23), .ref (u_2.1 24), .ref (u_2.1 25), .ref (u_2.1 26), .ref (u_2.1 27), .ref (u_2.1 28), .int 0, .ref (u_2.1 2), .ref (u_2.1 1), .ref (u_2.1 4)])), ((u_2.1 8), .inr (5, [.ref (u_2.1 29), .int 0, .ref (u_2.1 30), .int 0, .ref (u_2.1 31), .ref (u_2.1 32), .ref (u_2.1 2), .ref (u_2.1 1), .ref (u_2.1 4), .ref (u_2.1 3)])), ((u_2.1 9), .inr (10, [.ref (u_2.1 33), .int 0, .int (-1), .ref (u_2.1 34), .ref (u_2.1 1)])), ((u_2.1 33), .inl (cy 0, 6, .inl (fun _ => 0))), ((u_2.1 10), .inr (0, [.ref (u_2.1 35), .int 0, .int 0, .int 0, .int 0])), ((u_2.1 11), .inr (7, [.ref (u_2.1 36), .ref (u_2.1 37), .ref (u_2.1 38), .ref (u_2.1 39)])), ((u_2.1 38), .inl (cy 0, 6, .inl (fun _ => 0))), ((u_2.1 39), .inl (cy 7, 6, .inr (.inr (.inr (.inr (fun i => if i < 6 then some (u_2.2 i) else none)))))), ((u_2.2 0), .inl (cy 4, 60, .inr (.inl (fun _ => 0)))), ((u_2.2 1), .inl (cy 4, 60, .inr (.inl (fun _ => 0)))), ((u_2.2 2), .inl (cy 4, 60, .inr (.inl (fun _ => 0)))), ((u_2.2 3), .inl (cy 4, 60, .inr (.inl (fun _ => 0)))), ((u_2.2 4), .inl (cy 4, 60, .inr (.inl (fun _ => 0)))), ((u_2.2 5), .inl (cy 4, 60, .inr (.inl (fun _ => 0)))), ((u_2.1 36), .inl (cy 0, 6, .inl (fun _ => (-1)))), ((u_2.1 37), .inl (cy 0, 6, .inl (fun _ => (-1)))), (q_3, .inr (12, [.int 0, .ref (u_4.1 0), .ref (u_4.1 1), .int 0, .ref (u_4.1 2), .ref (u_4.1 3), .ref (u_4.1 4), .ref (u_4.1 5), .ref (u_4.1 6), .int 0, .ref (u_4.1 7), .ref (u_4.1 8), .ref (u_4.1 9), .ref (u_4.1 10), .ref (u_4.1 11), .ref (u_4.1 12), .ref (u_4.1 13), .ref (u_4.1 14), .ref (u_4.1 15), .ref (u_4.1 16), .ref (u_4.1 17), .ref (u_4.1 18), .int 0, .ref (u_4.1 19), .ref (u_4.1 20), .ref (u_4.1 21), .ref (u_4.1 22), .ref (u_4.1 23), .ref (u_4.1 24), .int 0, .int 0, .ref (u_4.1 25), .int 0, .ref (u_4.1 26), .int 0, .ref (u_4.1 27), .int (-1), .ref (u_4.1 28), .int 0, .ref (u_4.1 29), .ref (u_4.1 30), .ref (u_4.1 31), .ref (u_4.1 32), .ref (u_4.1 33), .int 0, .int 0, .int 0, .int 0, .int 0, .int 0, .int 0, .int 0, .ref (u_4.1 34), .int 0, .ref (u_4.1 35), .int 0, .ref (u_4.1 36), .ref (u_4.1 37), .ref (u_4.1 38)])), ((u_4.1 2), .inl (cy 0, 12, .inl (fun _ => 0))), ((u_4.1 3), .inl (cy 0, 12, .inl (fun _ => 0))), ((u_4.1 18), .inl (cy 0, 80, .inl (fun _ => 0))), ((u_4.1 27), .inl (cy 0, 6, .inl (fun _ => 0))), ((u_4.1 29), .inl (cy 0, 6, .inl (fun _ => (-1)))), ((u_4.1 30), .inl (cy 0, 6, .inl (fun _ => (-1)))), ((u_4.1 31), .inl (cy 0, 6, .inl (fun _ => 0))), ((u_4.1 32), .inl (cy 4, 360, .inr (.inl (fun _ => 0))))] H := hP
  have hD : va_D A [(q_1, .inr (11, [.ref (u_2.1 0), .ref (u_2.1 1), .ref (u_2.1 2), .ref (u_2.1 3), .ref (u_2.1 4), .ref (u_2.1 5), .int 0, .ref (u_2.1 6), .ref (u_2.1 7), .ref (u_2.1 8), .ref (u_2.1 9), .ref (u_2.1 10), .ref (u_2.1 11)])), ((u_2.1 0), .inr (9, [.ref (u_2.1 12), .int 0])), ((u_2.1 12), .inl (cy 1, 80, .inl (fun _ => 0))), ((u_2.1 1), .inr (4, [.ref (u_2.1 13), .ref (u_2.1 14), .ref (u_2.1 15), .int 0])), ((u_2.1 2), .inr (2, [.ref (u_2.1 16), .ref (u_2.1 17), .ref (u_2.1 18), .ref (u_2.1 19), .ref (u_2.1 20), .int 0])), ((u_2.1 16), .inl (cy 0, 12, .inl (fun _ => 0))), ((u_2.1 17), .inl (cy 0, 12, .inl (fun _ => 0))), ((u_2.1 18), .inl (cy 0, 12, .inl (fun _ => 0))), ((u_2.1 19), .inl (cy 0, 12, .inl (fun _ => 0))), ((u_2.1 5), .inl (cy 8, 10, .inr (.inr (.inr (.inr (fun _ => none)))))), ((u_2.1 7), .inr (6, [.ref (u_2.1 21), .ref (u_2.1 22), .ref (u_2.1 23), .ref (u_2.1 24), .ref (u_2.1 25), .ref (u_2.1 26), .ref (u_2.1 27), .ref (u_2.1 28), .int 0, .ref (u_2.1 2), .ref (u_2.1 1), .ref (u_2.1 4)])), ((u_2.1 8), .inr (5, [.ref (u_2.1 29), .int 0, .ref (u_2.1 30), .int 0, .ref (u_2.1 31), .ref (u_2.1 32), .ref (u_2.1 2), .ref (u_2.1 1), .ref (u_2.1 4), .ref (u_2.1 3)])), ((u_2.1 9), .inr (10, [.ref (u_2.1 33), .int 0, .int (-1), .ref (u_2.1 34), .ref (u_2.1 1)])), ((u_2.1 33), .inl (cy 0, 6, .inl (fun _ => 0))), ((u_2.1 10), .inr (0, [.ref (u_2.1 35), .int 0, .int 0, .int 0, .int 0])), ((u_2.1 11), .inr (7, [.ref (u_2.1 36), .ref (u_2.1 37), .ref (u_2.1 38), .ref (u_2.1 39)])), ((u_2.1 38), .inl (cy 0, 6, .inl (fun _ => 0))), ((u_2.1 39), .inl (cy 7, 6, .inr (.inr (.inr (.inr (fun i => if i < 6 then some (u_2.2 i) else none)))))), ((u_2.2 0), .inl (cy 4, 60, .inr (.inl (fun _ => 0)))), ((u_2.2 1), .inl (cy 4, 60, .inr (.inl (fun _ => 0)))), ((u_2.2 2), .inl (cy 4, 60, .inr (.inl (fun _ => 0)))), ((u_2.2 3), .inl (cy 4, 60, .inr (.inl (fun _ => 0)))), ((u_2.2 4), .inl (cy 4, 60, .inr (.inl (fun _ => 0)))), ((u_2.2 5), .inl (cy 4, 60, .inr (.inl (fun _ => 0)))), ((u_2.1 36), .inl (cy 0, 6, .inl (fun _ => (-1)))), ((u_2.1 37), .inl (cy 0, 6, .inl (fun _ => (-1)))), (q_3, .inr (12, [.int 0, .ref (u_4.1 0), .ref (u_4.1 1), .int 0, .ref (u_4.1 2), .ref (u_4.1 3), .ref (u_4.1 4), .ref (u_4.1 5), .ref (u_4.1 6), .int 0, .ref (u_4.1 7), .ref (u_4.1 8), .ref (u_4.1 9), .ref (u_4.1 10), .ref (u_4.1 11), .ref (u_4.1 12), .ref (u_4.1 13), .ref (u_4.1 14), .ref (u_4.1 15), .ref (u_4.1 16), .ref (u_4.1 17), .ref (u_4.1 18), .int 0, .ref (u_4.1 19), .ref (u_4.1 20), .ref (u_4.1 21), .ref (u_4.1 22), .ref (u_4.1 23), .ref (u_4.1 24), .int 0, .int 0, .ref (u_4.1 25), .int 0, .ref (u_4.1 26), .int 0, .ref (u_4.1 27), .int (-1), .ref (u_4.1 28), .int 0, .ref (u_4.1 29), .ref (u_4.1 30), .ref (u_4.1 31), .ref (u_4.1 32), .ref (u_4.1 33), .int 0, .int 0, .int 0, .int 0, .int 0, .int 0, .int 0, .int 0, .ref (u_4.1 34), .int 0, .ref (u_4.1 35), .int 0, .ref (u_4.1 36), .ref (u_4.1 37), .ref (u_4.1 38)])), ((u_4.1 2), .inl (cy 0, 12, .inl (fun _ => 0))), ((u_4.1 3), .inl (cy 0, 12, .inl (fun _ => 0))), ((u_4.1 18), .inl (cy 0, 80, .inl (fun _ => 0))), ((u_4.1 27), .inl (cy 0, 6, .inl (fun _ => 0))), ((u_4.1 29), .inl (cy 0, 6, .inl (fun _ => (-1)))), ((u_4.1 30), .inl (cy 0, 6, .inl (fun _ => (-1)))), ((u_4.1 31), .inl (cy 0, 6, .inl (fun _ => 0))), ((u_4.1 32), .inl (cy 4, 360, .inr (.inl (fun _ => 0))))] := hD
  refine W.widen (k := 228) (n := 23896) (Nat.le_of_ble_eq_true rfl) (Nat.le_of_ble_eq_true rfl) ?_
  refine lv_astore_n (lv' := [(2, .ref q_3), (1, .ref q_1), (0, .ref b)]) hx hb dL_law_15 rfl hl (by decide) rfl (fun ls hl => ?_)
  refine lv_iconst (v := 0) hx hb dL_law_16 (by decide) ?_
  refine lv_istore_n (lv' := [(3, .int 0), (2, .ref q_3), (1, .ref q_1), (0, .ref b)]) hx hb dL_law_17 rfl hl (by decide) rfl (fun ls hl => ?_)
  have hP : va_P (dC, dI) vwCl (wLaw cy q_1 q_3 u_2 u_4) H := hP
  have hD : va_D A (wLaw cy q_1 q_3 u_2 u_4) := hD
  have hl := lv_sub hl [0, 1, 2, 3] (l' := [(3, .int 0), (2, .ref q_3), (1, .ref q_1), (0, .ref b)]) rfl
  refine lv_iload_n hx hb dL_law_18 rfl (lv_at hl 0 rfl) ?_
  refine lv_aload_n hx hb dL_law_19 rfl (lv_at hl 3 rfl) ?_
  refine va_slen hx hb hX hbl hbA hS dL_law_20 ?_
  refine lv_bipush (v := 6) hx hb dL_law_21 (by decide) ?_
  refine lv_isub hx hb dL_law_23 ?_
  rcases Nat.lt_or_ge L 6 with hL6 | hL6
  · refine lv_icmp_gt (tgt := 1642) hx hb dL_law_24 (by decide) (fun _ => ?_) (fun c1 => absurd (pk_sneg (a := L) (b := 6) (by decide) hL6) c1)
    exact law_out C0 hAe hS (Nat.le_of_ble_eq_true rfl) (Nat.le_of_ble_eq_true rfl)
  · obtain rfl : L = 6 := by omega
    refine lv_icmp_gt (tgt := 1642) hx hb dL_law_24 (by decide) (fun c1 => absurd c1 (by decide)) (fun _ => ?_)
    refine lv_aload_n hx hb dL_law_27 rfl (lv_at hl 3 rfl) ?_
    refine lv_iload_n hx hb dL_law_28 rfl (lv_at hl 0 rfl) ?_
    refine va_sld hx hb hX hbl hbA hS (vp_in_nI (n := 0) (N := 6) (by decide) (by decide)) dL_law_29 ?_
    refine lv_bipush (v := 63) hx hb dL_law_30 (by decide) ?_
    refine lv_iand hx hb dL_law_32 ?_
    refine lv_topi (fun x9 ex9 => ?_)
    obtain ⟨j, hj, ej⟩ := pk_andE (xs (Int32.toNatClampNeg 0)) (m := 63) 6 (by decide)
    have ex9 : x9 = nI j := ex9.trans ej
    rcases Nat.lt_or_ge j 41 with hj4 | hj4
    · match j, hj4, ex9 with
      | 0, _, ex9 =>
        refine lv_tableIn (off := 179) (tgt := 212) hx hb dL_law_33 (by rw [ex9]; decide) (by rw [ex9]; decide) (by rw [ex9]; rfl) (by decide) ?_
        exact law_case_0 C0 hAe hK hN hP hD hS hl
      | 1, _, ex9 =>
        refine lv_tableIn (off := 212) (tgt := 245) hx hb dL_law_33 (by rw [ex9]; decide) (by rw [ex9]; decide) (by rw [ex9]; rfl) (by decide) ?_
        exact law_case_1 C0 hAe hK hN hP hD hS hl
      | 2, _, ex9 =>
        refine lv_tableIn (off := 225) (tgt := 258) hx hb dL_law_33 (by rw [ex9]; decide) (by rw [ex9]; decide) (by rw [ex9]; rfl) (by decide) ?_
        exact law_case_2 C0 hAe hK hN hP hD hS hl
      | 3, _, ex9 =>
        refine lv_tableIn (off := 258) (tgt := 291) hx hb dL_law_33 (by rw [ex9]; decide) (by rw [ex9]; decide) (by rw [ex9]; rfl) (by decide) ?_
        exact law_case_3 C0 hAe hK hN hP hD hS hl
      | 4, _, ex9 =>
        refine lv_tableIn (off := 291) (tgt := 324) hx hb dL_law_33 (by rw [ex9]; decide) (by rw [ex9]; decide) (by rw [ex9]; rfl) (by decide) ?_
        exact law_case_4 C0 hAe hK hN hP hD hS hl
      | 5, _, ex9 =>
        refine lv_tableIn (off := 324) (tgt := 357) hx hb dL_law_33 (by rw [ex9]; decide) (by rw [ex9]; decide) (by rw [ex9]; rfl) (by decide) ?_
        exact law_case_5 C0 hAe hK hN hP hD hS hl
      | 6, _, ex9 =>
        refine lv_tableIn (off := 357) (tgt := 390) hx hb dL_law_33 (by rw [ex9]; decide) (by rw [ex9]; decide) (by rw [ex9]; rfl) (by decide) ?_
        exact law_case_6 C0 hAe hK hN hP hD hS hl
      | 7, _, ex9 =>
        refine lv_tableIn (off := 390) (tgt := 423) hx hb dL_law_33 (by rw [ex9]; decide) (by rw [ex9]; decide) (by rw [ex9]; rfl) (by decide) ?_
        exact law_case_7 C0 hAe hK hN hP hD hS hl
      | 8, _, ex9 =>
        refine lv_tableIn (off := 423) (tgt := 456) hx hb dL_law_33 (by rw [ex9]; decide) (by rw [ex9]; decide) (by rw [ex9]; rfl) (by decide) ?_
        exact law_case_8 C0 hAe hK hN hP hD hS hl
      | 9, _, ex9 =>
        refine lv_tableIn (off := 456) (tgt := 489) hx hb dL_law_33 (by rw [ex9]; decide) (by rw [ex9]; decide) (by rw [ex9]; rfl) (by decide) ?_
        exact law_case_9 C0 hAe hK hN hP hD hS hl
      | 10, _, ex9 =>
        refine lv_tableIn (off := 489) (tgt := 522) hx hb dL_law_33 (by rw [ex9]; decide) (by rw [ex9]; decide) (by rw [ex9]; rfl) (by decide) ?_
        exact law_case_10 C0 hAe hK hN hP hD hS hl
      | 11, _, ex9 =>
        refine lv_tableIn (off := 532) (tgt := 565) hx hb dL_law_33 (by rw [ex9]; decide) (by rw [ex9]; decide) (by rw [ex9]; rfl) (by decide) ?_
        exact law_case_11 C0 hAe hK hN hP hD hS hl
      | 12, _, ex9 =>
        refine lv_tableIn (off := 575) (tgt := 608) hx hb dL_law_33 (by rw [ex9]; decide) (by rw [ex9]; decide) (by rw [ex9]; rfl) (by decide) ?_
        exact law_case_12 C0 hAe hK hN hP hD hS hl
      | 13, _, ex9 =>
        refine lv_tableIn (off := 598) (tgt := 631) hx hb dL_law_33 (by rw [ex9]; decide) (by rw [ex9]; decide) (by rw [ex9]; rfl) (by decide) ?_
        exact law_case_13 C0 hAe hK hN hP hD hS hl
      | 14, _, ex9 =>
        refine lv_tableIn (off := 641) (tgt := 674) hx hb dL_law_33 (by rw [ex9]; decide) (by rw [ex9]; decide) (by rw [ex9]; rfl) (by decide) ?_
        exact law_case_14 C0 hAe hK hN hP hD hS hl
      | 15, _, ex9 =>
        refine lv_tableIn (off := 684) (tgt := 717) hx hb dL_law_33 (by rw [ex9]; decide) (by rw [ex9]; decide) (by rw [ex9]; rfl) (by decide) ?_
        exact law_case_15 C0 hAe hK hN hP hD hS hl
      | 16, _, ex9 =>
        refine lv_tableIn (off := 717) (tgt := 750) hx hb dL_law_33 (by rw [ex9]; decide) (by rw [ex9]; decide) (by rw [ex9]; rfl) (by decide) ?_
        exact law_case_16 C0 hAe hK hN hP hD hS hl
      | 17, _, ex9 =>
        refine lv_tableIn (off := 750) (tgt := 783) hx hb dL_law_33 (by rw [ex9]; decide) (by rw [ex9]; decide) (by rw [ex9]; rfl) (by decide) ?_
        exact law_case_17 C0 hAe hK hN hP hD hS hl
      | 18, _, ex9 =>
        refine lv_tableIn (off := 783) (tgt := 816) hx hb dL_law_33 (by rw [ex9]; decide) (by rw [ex9]; decide) (by rw [ex9]; rfl) (by decide) ?_
        exact law_case_18 C0 hAe hK hN hP hD hS hl
      | 19, _, ex9 =>
        refine lv_tableIn (off := 826) (tgt := 859) hx hb dL_law_33 (by rw [ex9]; decide) (by rw [ex9]; decide) (by rw [ex9]; rfl) (by decide) ?_
        exact law_case_19 C0 hAe hK hN hP hD hS hl
      | 20, _, ex9 =>
        refine lv_tableIn (off := 859) (tgt := 892) hx hb dL_law_33 (by rw [ex9]; decide) (by rw [ex9]; decide) (by rw [ex9]; rfl) (by decide) ?_
        exact law_case_20 C0 hAe hK hN hP hD hS hl
      | 21, _, ex9 =>
        refine lv_tableIn (off := 902) (tgt := 935) hx hb dL_law_33 (by rw [ex9]; decide) (by rw [ex9]; decide) (by rw [ex9]; rfl) (by decide) ?_
        exact law_case_21 C0 hAe hK hN hP hD hS hl
      | 22, _, ex9 =>
        refine lv_tableIn (off := 925) (tgt := 958) hx hb dL_law_33 (by rw [ex9]; decide) (by rw [ex9]; decide) (by rw [ex9]; rfl) (by decide) ?_
        exact law_case_22 C0 hAe hK hN hP hD hS hl
      | 23, _, ex9 =>
        refine lv_tableIn (off := 968) (tgt := 1001) hx hb dL_law_33 (by rw [ex9]; decide) (by rw [ex9]; decide) (by rw [ex9]; rfl) (by decide) ?_
        exact law_case_23 C0 hAe hK hN hP hD hS hl
      | 24, _, ex9 =>
        refine lv_tableIn (off := 1011) (tgt := 1044) hx hb dL_law_33 (by rw [ex9]; decide) (by rw [ex9]; decide) (by rw [ex9]; rfl) (by decide) ?_
        exact law_case_24 C0 hAe hK hN hP hD hS hl
      | 25, _, ex9 =>
        refine lv_tableIn (off := 1064) (tgt := 1097) hx hb dL_law_33 (by rw [ex9]; decide) (by rw [ex9]; decide) (by rw [ex9]; rfl) (by decide) ?_
        exact law_case_25 C0 hAe hK hN hP hD hS hl
      | 26, _, ex9 =>
        refine lv_tableIn (off := 1087) (tgt := 1120) hx hb dL_law_33 (by rw [ex9]; decide) (by rw [ex9]; decide) (by rw [ex9]; rfl) (by decide) ?_
        exact law_case_26 C0 hAe hK hN hP hD hS hl
      | 27, _, ex9 =>
        refine lv_tableIn (off := 1110) (tgt := 1143) hx hb dL_law_33 (by rw [ex9]; decide) (by rw [ex9]; decide) (by rw [ex9]; rfl) (by decide) ?_
        exact law_case_27 C0 hAe hK hN hP hD hS hl
      | 28, _, ex9 =>
        refine lv_tableIn (off := 1133) (tgt := 1166) hx hb dL_law_33 (by rw [ex9]; decide) (by rw [ex9]; decide) (by rw [ex9]; rfl) (by decide) ?_
        exact law_case_28 C0 hAe hK hN hP hD hS hl
      | 29, _, ex9 =>
        refine lv_tableIn (off := 1156) (tgt := 1189) hx hb dL_law_33 (by rw [ex9]; decide) (by rw [ex9]; decide) (by rw [ex9]; rfl) (by decide) ?_
        exact law_case_29 C0 hAe hK hN hP hD hS hl
      | 30, _, ex9 =>
        refine lv_tableIn (off := 1179) (tgt := 1212) hx hb dL_law_33 (by rw [ex9]; decide) (by rw [ex9]; decide) (by rw [ex9]; rfl) (by decide) ?_
        exact law_case_30 C0 hAe hK hN hP hD hS hl
      | 31, _, ex9 =>
        refine lv_tableIn (off := 1192) (tgt := 1225) hx hb dL_law_33 (by rw [ex9]; decide) (by rw [ex9]; decide) (by rw [ex9]; rfl) (by decide) ?_
        exact law_case_31 C0 hAe hK hN hP hD hS hl
      | 32, _, ex9 =>
        refine lv_tableIn (off := 1235) (tgt := 1268) hx hb dL_law_33 (by rw [ex9]; decide) (by rw [ex9]; decide) (by rw [ex9]; rfl) (by decide) ?_
        exact law_case_32 C0 hAe hK hN hP hD hS hl
      | 33, _, ex9 =>
        refine lv_tableIn (off := 1258) (tgt := 1291) hx hb dL_law_33 (by rw [ex9]; decide) (by rw [ex9]; decide) (by rw [ex9]; rfl) (by decide) ?_
        exact law_case_33 C0 hAe hK hN hP hD hS hl
      | 34, _, ex9 =>
        refine lv_tableIn (off := 1291) (tgt := 1324) hx hb dL_law_33 (by rw [ex9]; decide) (by rw [ex9]; decide) (by rw [ex9]; rfl) (by decide) ?_
        exact law_case_34 C0 hAe hK hN hP hD hS hl
      | 35, _, ex9 =>
        refine lv_tableIn (off := 1334) (tgt := 1367) hx hb dL_law_33 (by rw [ex9]; decide) (by rw [ex9]; decide) (by rw [ex9]; rfl) (by decide) ?_
        exact law_case_35 C0 hAe hK hN hP hD hS hl
      | 36, _, ex9 =>
        refine lv_tableIn (off := 1407) (tgt := 1440) hx hb dL_law_33 (by rw [ex9]; decide) (by rw [ex9]; decide) (by rw [ex9]; rfl) (by decide) ?_
        exact law_case_36 C0 hAe hK hN hP hD hS hl
      | 37, _, ex9 =>
        refine lv_tableIn (off := 1441) (tgt := 1474) hx hb dL_law_33 (by rw [ex9]; decide) (by rw [ex9]; decide) (by rw [ex9]; rfl) (by decide) ?_
        exact law_case_37 C0 hAe hK hN hP hD hS hl
      | 38, _, ex9 =>
        refine lv_tableIn (off := 1504) (tgt := 1537) hx hb dL_law_33 (by rw [ex9]; decide) (by rw [ex9]; decide) (by rw [ex9]; rfl) (by decide) ?_
        exact law_case_38 C0 hAe hK hN hP hD hS hl
      | 39, _, ex9 =>
        refine lv_tableIn (off := 1537) (tgt := 1570) hx hb dL_law_33 (by rw [ex9]; decide) (by rw [ex9]; decide) (by rw [ex9]; rfl) (by decide) ?_
        exact law_case_39 C0 hAe hK hN hP hD hS hl
      | 40, _, ex9 =>
        refine lv_tableIn (off := 1580) (tgt := 1613) hx hb dL_law_33 (by rw [ex9]; decide) (by rw [ex9]; decide) (by rw [ex9]; rfl) (by decide) ?_
        exact law_case_40 C0 hAe hK hN hP hD hS hl
      | j + 41, hj4, _ => exact absurd hj4 (by omega)
    · refine lv_tableOut (tgt := 1636) hx hb dL_law_33 (Or.inr (by rw [ex9, nI_toInt (by omega)]; omega)) (by decide) ?_
      exact law_tail C0 hAe hS hl (Nat.le_of_ble_eq_true rfl) (Nat.le_of_ble_eq_true rfl)
