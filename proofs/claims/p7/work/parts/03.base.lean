section
/-- the array classes by their places: 0 int, 1 byte, 2 boolean, 3 short, 4 long, 5 byte[][], 6 int[][], 7 long[][], 8 Table[] -/
noncomputable def tyl (cy : Nat → ClassId) : List (ClassId × FieldType) := [(cy 0, .int), (cy 1, .byte), (cy 2, .boolean), (cy 3, .short), (cy 4, .long), (cy 5, .array .byte), (cy 6, .array .int), (cy 7, .array .long), (cy 8, .object "SeatsRound$Table")]
noncomputable def nwl : List Cond := [.methodLinkNest RX11 9 yX9_init RX11, .methodLinkNest RX11 18 yX4_init RX11, .methodLinkNest RX11 25 yX2_init RX11, .methodLinkNest RX11 32 yX3_init RX11, .methodLinkNest RX11 56 yX8_init RX11, .methodLinkNest RX11 90 yX0_init RX11, .methodLinkNest RX8 87 yX11_strewn RX11, .methodLinkNest RX8 96 yX11_placeBehind RX11, .methodLinkNest RX1 78 yX11_placeBehind RX11]
/-- what the tables say of private members of nest mates and of arrays over classes -/
noncomputable def NW (U : State) : Prop := (∀ w ∈ nwl, va_Nw w U) ∧ va_AO "SeatsRound$Table" U ∧ va_AOA .byte U ∧ va_AOA .int U ∧ va_AOA .long U
theorem nwl_all (P : Cond → Prop) (h : ∀ a i y b, Cond.methodLinkNest a i y b ∈ nwl → P (.methodLinkNest a i y b)) : ∀ w ∈ nwl, P w := by
  intro w hw
  have hw2 := hw
  simp only [nwl, List.mem_cons, List.not_mem_nil, or_false] at hw2
  rcases hw2 with rfl | rfl | rfl | rfl | rfl | rfl | rfl | rfl | rfl <;> exact h _ _ _ _ hw
theorem NW.warm {s U : State} (hW : s.WarmedH U.vm) (h : NW s) : NW U :=
  ⟨nwl_all _ (fun _ _ _ _ hm => va_Nw.warmM hW (h.1 _ hm)), h.2.1.moved hW.alike, h.2.2.1.moved hW.alike, h.2.2.2.1.moved hW.alike, h.2.2.2.2.moved hW.alike⟩
theorem NW.same {u U : State} (hv : u.vm = U.vm) (h : NW u) : NW U := by
  have ha : u.vm.Alike U.vm := by rw [hv]; exact Vm.Alike.refl U.vm
  exact ⟨nwl_all _ (fun _ _ _ _ hm => va_Nw.same rfl hv (h.1 _ hm)), h.2.1.moved ha, h.2.2.1.moved ha, h.2.2.2.1.moved ha, h.2.2.2.2.moved ha⟩
noncomputable def wPre (D : va_G) (cy : Nat → ClassId) (ws : va_W) (sz : Nat) (U : State) : Prop := U.heap.size = sz ∧ va_P D vwCl ws U.heap ∧ va_K D vwCl (tyl cy) U ∧ va_D (fun _ => True) ws ∧ NW U
noncomputable def wAt (D : va_G) (A : Nat → Prop) (ws : va_W) (t : State) : Prop := va_P D vwCl ws t.heap ∧ va_D A ws
theorem wp_blind {av : List Value} {D : va_G} {cy : Nat → ClassId} {ws : va_W} {sz : Nat} : FrameBlind (va_Pc av (wPre D cy ws sz)) := fun a U g mk q => by
  obtain ⟨q0, q1, qP, qK, qD, qN⟩ := q
  exact ⟨q0, q1, qP, va_K.moved (u := U) (U := U.calling g mk a) (Vm.Alike.refl U.vm) qK, qD, NW.same (u := U) (U := U.calling g mk a) rfl qN⟩
theorem wp_V {s : State} {H : Heap} {C : String} {b : Addr} {As : List Value} {D : va_G} {cy : Nat → ClassId} {ws : va_W} {A : Nat → Prop} (hK : va_K D vwCl (tyl cy) s) (hN : NW s) (hP : va_P D vwCl ws H) (hD : va_D A ws) (hr : ∃ cellB : Cell, H[b]? = some cellB ∧ cellB.vm.isStatics = false ∧ s.vm.findClass C = some cellB.cls) : PreV s H C b (va_Pc (.ref b :: As) (wPre D cy ws H.size)) As :=
  ⟨wp_blind, hr, fun U hU hW => ⟨rfl, by rw [hU], by rw [hU]; exact hP, va_K.moved hW.alike hK, hD.weaken (fun _ _ _ _ => trivial), hN.warm hW⟩⟩
theorem wp_S {s : State} {H : Heap} {As : List Value} {D : va_G} {cy : Nat → ClassId} {ws : va_W} {A : Nat → Prop} (hK : va_K D vwCl (tyl cy) s) (hN : NW s) (hP : va_P D vwCl ws H) (hD : va_D A ws) : PreS s H (va_Pc As (wPre D cy ws H.size)) As :=
  ⟨wp_blind, fun U hU hW => ⟨rfl, by rw [hU], by rw [hU]; exact hP, va_K.moved hW.alike hK, hD.weaken (fun _ _ _ _ => trivial), hN.warm hW⟩⟩
theorem va_P.take {D : va_G} {cl : List vw_C} {ws : va_W} {H : Heap} (k : Nat) (h : va_P D cl ws H) : va_P D cl (ws.take k) H := fun i q hq => by
  rw [List.getElem?_take] at hq
  split at hq
  · exact h i q hq
  · cases hq
theorem va_D.take {A : Nat → Prop} {ws : va_W} (k : Nat) (h : va_D A ws) : va_D A (ws.take k) := by
  have hh : ∀ (i : Nat) (q : Nat × va_E), (ws.take k)[i]? = some q → ws[i]? = some q := fun i q hq => by
    rw [List.getElem?_take] at hq
    split at hq
    · exact hq
    · cases hq
  exact ⟨fun i j p q hi hj e => h.1 i j p q (hh i p hi) (hh j q hj) e, fun i q hi => h.2 i q (hh i q hi)⟩
theorem va_RA_one {U : State} {a b : ClassId} {ty : FieldType} (h1 : va_RA U a ty) (h2 : va_RA U b ty) : a = b := by
  cases ty with
  | object C =>
    obtain ⟨_, _, _, _, _, e1⟩ := h1
    obtain ⟨_, _, _, _, _, e2⟩ := h2
    exact Option.some.inj (e1.symm.trans e2)
  | _ => exact Option.some.inj (Eq.trans (Eq.symm h1) h2)
section VZ
variable {p : Program} {l : Launch} {e : Env} {R : Room} {s : State} {m : MethodId} {args : Array Value} {below : List Frame} {meth : Method} {c : Code} {H : Heap} {locs : List Loc} {cells slots : Nat} {Q : State → Prop}
variable {cc : ByteArray} {pc : Nat} {ls : Array Slot} {rest : List Value} {D : va_G} {cl : List vw_C} {A : Nat → Prop} {a : Nat} {tys : List (ClassId × FieldType)} {ws : va_W} {H0 : Heap}
theorem vz_callSi {post : Int32 → Prop} {a : Array Value} {st0 : List Value} (hr : va_Run p l e R s m args below meth c H locs cells slots 0 0 (F0 m pc ls st0) rest (vp_Si post a) (fun _ => False))
    (kk : ∀ r : Int32, post r → W p l e R s m args below meth c H locs cells slots Q (F0 m (pc + 3) ls (.int r :: rest))) : W p l e R s m args below meth c H locs cells slots Q (F0 m pc ls st0) := by
  intro T hT X
  obtain ⟨v, st₀, t, T', L, h0, X', hL, e1, e2, ⟨r, hv, hp, hh⟩, st⟩ := hr T hT X
  cases hv
  obtain ⟨t2, a1, b1⟩ := kk r hp T' (by rw [e1, hh, h0]) (Stand.forget X' (fun q h => (hL q h).elim))
  exact ⟨t2, st t2 a1, b1⟩
theorem vz_callSq {post : Option Nat → Prop} {a : Array Value} {st0 : List Value} (hr : va_Run p l e R s m args below meth c H locs cells slots 0 0 (F0 m pc ls st0) rest (va_Sq post a) (fun _ => False))
    (kk : ∀ r : Option Nat, post r → W p l e R s m args below meth c H locs cells slots Q (F0 m (pc + 3) ls (va_rf r :: rest))) : W p l e R s m args below meth c H locs cells slots Q (F0 m pc ls st0) := by
  intro T hT X
  obtain ⟨v, st₀, t, T', L, h0, X', hL, e1, e2, ⟨r, hv, hp, hh⟩, st⟩ := hr T hT X
  cases hv
  obtain ⟨t2, a1, b1⟩ := kk r hp T' (by rw [e1, hh, h0]) (Stand.forget X' (fun q h => (hL q h).elim))
  exact ⟨t2, st t2 a1, b1⟩
theorem vz_last {t0 : Nat} {cA cB : ClassId} {ty : FieldType} (hK : va_K D cl tys s) (ht : tys[t0]? = some (cA, ty)) (hK1 : va_K D cl (tys ++ [(cB, ty)]) s) : cB = cA :=
  va_RA_one (hK1.2 tys.length (cB, ty) (by simp)).2 (hK.2 t0 _ ht).2
theorem vz_newa (hexec : p.tables.exec = Jvm.exec) (hb : c.code = cc) {atype : ArrayType} {t0 : Nat} {cA : ClassId} (harr : (Cond.arrayClass (newarray.typeOf atype)).before args s = true) {ty : FieldType} (hty : newarray.typeOf atype = ty) (ht : tys[t0]? = some (cA, ty)) (hK : va_K D cl tys s) (hP : va_P D cl ws H) (hD : va_D A ws) (hS : va_S A H0 H locs) (hA : ∀ q, H0.size ≤ q → A q)
    {n : Int32} {N' : Nat} {a0 : vp_A} (ha : ∀ cA : ClassId, vp_cell cA a0 = arrV cA N' (fun _ => defaultValue ty)) (hn : ¬ n < 0) (hN : n.toNatClampNeg = N') (hbytes : N' * componentBytes ty ≤ 536870912) (hcells : cells + 1 ≤ R.cells) (hslots : slots + N' ≤ R.slots) (hdg : decode cc pc = .ok (.newarray atype, 2))
    (kk : ∀ (q : Nat) (H1 : Heap), va_P D cl (ws ++ [(q, .inl (cA, a0))]) H1 → va_D A (ws ++ [(q, .inl (cA, a0))]) → va_S A H0 H1 locs →
      W p l e R s m args below meth c H1 locs (cells + 1) (slots + N') Q (F0 m (pc + 2) ls (.ref q :: rest))) : W p l e R s m args below meth c H locs cells slots Q (F0 m pc ls (.int n :: rest)) := by
  refine va_newa hexec hb harr hty hK hP hD hS hA ha hn hN hbytes hcells hslots hdg (fun q cB H1 hK1 hP1 hD1 hS1 => ?_)
  have e9 := vz_last hK ht hK1
  subst e9
  exact kk q H1 hP1 hD1 hS1
theorem vz_newq (hexec : p.tables.exec = Jvm.exec) (hb : c.code = cc) {own C : String} {index t0 : Nat} {cA : ClassId} (hown : s.vm.findClass own = some m.cls) (hclink : (Cond.classLink own index C).before args s = true) (hover : va_AO C s) (ht : tys[t0]? = some (cA, .object C)) (hK : va_K D cl tys s) (hP : va_P D cl ws H) (hD : va_D A ws) (hS : va_S A H0 H locs) (hA : ∀ q, H0.size ≤ q → A q)
    {n : Int32} {N' : Nat} (hn : ¬ n < 0) (hN : n.toNatClampNeg = N') (hbytes : N' * 4 ≤ 536870912) (hcells : cells + 1 ≤ R.cells) (hslots : slots + N' ≤ R.slots) (hdg : decode cc pc = .ok (.anewarray index, 3))
    (kk : ∀ (q : Nat) (H1 : Heap), va_P D cl (ws ++ [(q, .inl (cA, N', .inr (.inr (.inr (.inr (fun _ => none))))))]) H1 → va_D A (ws ++ [(q, .inl (cA, N', .inr (.inr (.inr (.inr (fun _ => none))))))]) → va_S A H0 H1 locs →
      W p l e R s m args below meth c H1 locs (cells + 1) (slots + N') Q (F0 m (pc + 3) ls (.ref q :: rest))) : W p l e R s m args below meth c H locs cells slots Q (F0 m pc ls (.int n :: rest)) := by
  refine va_newq hexec hb hown hclink hover hK hP hD hS hA hn hN hbytes hcells hslots hdg (fun q cB H1 hK1 hP1 hD1 hS1 => ?_)
  have e9 := vz_last hK ht hK1
  subst e9
  exact kk q H1 hP1 hD1 hS1
theorem vz_mna (hexec : p.tables.exec = Jvm.exec) (hb : c.code = cc) {own : String} {index t0 t1 : Nat} {ty : FieldType} {cA cy : ClassId} (hown : s.vm.findClass own = some m.cls) (hclink : (Cond.classLink own index ("[" ++ (FieldType.array ty).toString)).before args s = true) (hover : va_AOA ty s) (harr : (Cond.arrayClass ty).before args s = true) (ht : tys[t0]? = some (cA, .array ty)) (hcy : s.vm.findClass (FieldType.array ty).toString = some cy)
    (hK : va_K D cl tys s) (hP : va_P D cl ws H) (hD : va_D A ws) (hS : va_S A H0 H locs) (hA : ∀ q, H0.size ≤ q → A q) {n k : Int32} {N' K' : Nat} {z : vp_A} (hn : ¬ n < 0) (hk : ¬ k < 0) (hN : n.toNatClampNeg = N') (hM : k.toNatClampNeg = K')
    (hb1 : N' * 4 ≤ 536870912) (hb2 : K' * componentBytes ty ≤ 536870912) (hb3 : K' ≤ 536870912) (hdf : fits ty (defaultValue ty) = true) (hdd : (defaultValue ty).isDefault = true) (hcells : cells + (1 + N') ≤ R.cells) (hslots : slots + (N' + N' * K') ≤ R.slots) (hz : ∀ c : ClassId, Jvm.Free.Multi.innerC c K' (defaultValue ty) = vp_cell c z) (hdg : decode cc pc = .ok (.multianewarray index 2, 4))
    (kk : ∀ (q : Nat) (r : Nat → Nat) (H1 : Heap), va_P D cl (ws ++ ((q, .inl (cA, N', .inr (.inr (.inr (.inr (fun i => if i < N' then some (r i) else none)))))) :: (List.range N').map (fun i => (r i, .inl (cy, z))))) H1 → va_D A (ws ++ ((q, .inl (cA, N', .inr (.inr (.inr (.inr (fun i => if i < N' then some (r i) else none)))))) :: (List.range N').map (fun i => (r i, .inl (cy, z))))) → va_S A H0 H1 locs →
      W p l e R s m args below meth c H1 locs (cells + 1 + N') (slots + N' + N' * K') Q (F0 m (pc + 4) ls (.ref q :: rest))) : W p l e R s m args below meth c H locs cells slots Q (F0 m pc ls (.int k :: .int n :: rest)) := by
  have h0 : ws ++ va_pl [] (fun _ => .inl (cy, z)) = ws := List.append_nil ws
  refine va_mna (X := ws) (L := []) (f := fun _ => .inl (cy, z)) hexec hb hown hclink hover harr hcy hK (by rw [h0]; exact hP) (by rw [h0]; exact hD) hS hA hn hk hN hM hb1 hb2 hb3 hdf hdd hcells hslots hz hdg (fun q r cB H1 _ _ hK1 hP1 hD1 hS1 => ?_)
  have e9 := vz_last hK ht hK1
  subst e9
  have e8 : va_pl ([] ++ (List.range N').map r) (vr_up (fun _ => .inl (cy, z)) ((List.range N').map r) (.inl (cy, z))) = (List.range N').map (fun i => (r i, (.inl (cy, z) : va_E))) := by
    unfold va_pl
    rw [List.nil_append, List.map_map]
    refine List.map_congr_left (fun i hi => ?_)
    exact congrArg (fun x : va_E => (r i, x)) (vr_up_in (List.mem_map.mpr ⟨i, hi, rfl⟩))
  rw [e8, List.append_assoc] at hP1 hD1
  exact kk q r H1 hP1 hD1 hS1
theorem vz_aldg (hexec : p.tables.exec = Jvm.exec) (hb : c.code = cc) (hK : va_K D cl tys s) (hP : va_P D cl ws H) (q0 t0 : Nat) {cA : ClassId} {ty : FieldType} {n y : Nat} {f : Nat → Option Nat} (ha : ws[q0]? = some (a, .inl (cA, n, .inr (.inr (.inr (.inr f)))))) (ht : tys[t0]? = some (cA, .array ty)) {i : Int32} (hin : vp_in i n) (hy : f i.toNatClampNeg = some y) (hdg : decode cc pc = .ok (.aaload, 1))
    (kk : W p l e R s m args below meth c H locs cells slots Q (F0 m (pc + 1) ls (.ref y :: rest))) : W p l e R s m args below meth c H locs cells slots Q (F0 m pc ls (.int i :: .ref a :: rest)) := by
  have hlt : i.toNatClampNeg < n := Nat.not_le.mp fun q => hin (Or.inr q)
  refine W.aald (v := .ref y) (ty := .array ty) hexec hb (hP q0 _ ha) ((hK.2 t0 _ ht).1 n (fun j => va_rf (f j))) rfl (fun q => by cases q) (by show ¬ (i < 0 ∨ (arrV _ _ _).slots.size ≤ _); rw [arrV_size]; exact hin) (by show (arrV _ _ _).slots[_]? = _; rw [arrV_read _ _ hlt, hy]; rfl) rfl rfl hdg kk
end VZ
theorem vz_andm1 (x : Int32) : x &&& (-1) = x := by
  apply Int32.toBitVec_inj.mp
  simp
theorem vz_sw (n : Nat) (x : Int32) : (∃ j : Nat, j ≤ n ∧ x = nI j) ∨ (x.toInt < (0 : Int) ∨ (n : Int) < x.toInt) := by
  by_cases h : x.toInt < 0
  · exact Or.inr (Or.inl h)
  · by_cases h2 : (n : Int) < x.toInt
    · exact Or.inr (Or.inr h2)
    · refine Or.inl ⟨x.toInt.toNat, by omega, ?_⟩
      obtain ⟨j, hj, rfl⟩ := nI_of (x := x) (fun q => h (by simpa [Int32.lt_iff_toInt_lt] using q))
      rw [nI_toInt hj]
      rfl
theorem vz_dfX0 : ∀ j, j < 5 → defaultValue (tyX0 j) = vp_V [.null, .int 0, .int 0, .int 0, .int 0] j := by
  intro j hj
  match j, hj with
  | 0, _ => rfl
  | 1, _ => rfl
  | 2, _ => rfl
  | 3, _ => rfl
  | 4, _ => rfl
  | j + 5, hj => exact absurd hj (by omega)
theorem vz_dfX1 : ∀ j, j < 9 → defaultValue (tyX1 j) = vp_V [.null, .null, .int 0, .int 0, .int 0, .int 0, .int 0, .null, .null] j := by
  intro j hj
  match j, hj with
  | 0, _ => rfl
  | 1, _ => rfl
  | 2, _ => rfl
  | 3, _ => rfl
  | 4, _ => rfl
  | 5, _ => rfl
  | 6, _ => rfl
  | 7, _ => rfl
  | 8, _ => rfl
  | j + 9, hj => exact absurd hj (by omega)
theorem vz_dfX2 : ∀ j, j < 6 → defaultValue (tyX2 j) = vp_V [.null, .null, .null, .null, .null, .int 0] j := by
  intro j hj
  match j, hj with
  | 0, _ => rfl
  | 1, _ => rfl
  | 2, _ => rfl
  | 3, _ => rfl
  | 4, _ => rfl
  | 5, _ => rfl
  | j + 6, hj => exact absurd hj (by omega)
theorem vz_dfX3 : ∀ j, j < 8 → defaultValue (tyX3 j) = vp_V [.null, .int 0, .int 0, .int 0, .int 0, .int 0, .int 0, .int 0] j := by
  intro j hj
  match j, hj with
  | 0, _ => rfl
  | 1, _ => rfl
  | 2, _ => rfl
  | 3, _ => rfl
  | 4, _ => rfl
  | 5, _ => rfl
  | 6, _ => rfl
  | 7, _ => rfl
  | j + 8, hj => exact absurd hj (by omega)
theorem vz_dfX4 : ∀ j, j < 4 → defaultValue (tyX4 j) = vp_V [.null, .null, .null, .int 0] j := by
  intro j hj
  match j, hj with
  | 0, _ => rfl
  | 1, _ => rfl
  | 2, _ => rfl
  | 3, _ => rfl
  | j + 4, hj => exact absurd hj (by omega)
theorem vz_dfX5 : ∀ j, j < 10 → defaultValue (tyX5 j) = vp_V [.null, .int 0, .null, .int 0, .null, .null, .null, .null, .null, .null] j := by
  intro j hj
  match j, hj with
  | 0, _ => rfl
  | 1, _ => rfl
  | 2, _ => rfl
  | 3, _ => rfl
  | 4, _ => rfl
  | 5, _ => rfl
  | 6, _ => rfl
  | 7, _ => rfl
  | 8, _ => rfl
  | 9, _ => rfl
  | j + 10, hj => exact absurd hj (by omega)
theorem vz_dfX6 : ∀ j, j < 12 → defaultValue (tyX6 j) = vp_V [.null, .null, .null, .null, .null, .null, .null, .null, .int 0, .null, .null, .null] j := by
  intro j hj
  match j, hj with
  | 0, _ => rfl
  | 1, _ => rfl
  | 2, _ => rfl
  | 3, _ => rfl
  | 4, _ => rfl
  | 5, _ => rfl
  | 6, _ => rfl
  | 7, _ => rfl
  | 8, _ => rfl
  | 9, _ => rfl
  | 10, _ => rfl
  | 11, _ => rfl
  | j + 12, hj => exact absurd hj (by omega)
theorem vz_dfX7 : ∀ j, j < 4 → defaultValue (tyX7 j) = vp_V [.null, .null, .null, .null] j := by
  intro j hj
  match j, hj with
  | 0, _ => rfl
  | 1, _ => rfl
  | 2, _ => rfl
  | 3, _ => rfl
  | j + 4, hj => exact absurd hj (by omega)
theorem vz_dfX8 : ∀ j, j < 13 → defaultValue (tyX8 j) = vp_V [.int 0, .int 0, .int 0, .int 0, .int 0, .int 0, .int 0, .int 0, .null, .null, .null, .null, .null] j := by
  intro j hj
  match j, hj with
  | 0, _ => rfl
  | 1, _ => rfl
  | 2, _ => rfl
  | 3, _ => rfl
  | 4, _ => rfl
  | 5, _ => rfl
  | 6, _ => rfl
  | 7, _ => rfl
  | 8, _ => rfl
  | 9, _ => rfl
  | 10, _ => rfl
  | 11, _ => rfl
  | 12, _ => rfl
  | j + 13, hj => exact absurd hj (by omega)
theorem vz_dfX9 : ∀ j, j < 2 → defaultValue (tyX9 j) = vp_V [.null, .int 0] j := by
  intro j hj
  match j, hj with
  | 0, _ => rfl
  | 1, _ => rfl
  | j + 2, hj => exact absurd hj (by omega)
theorem vz_dfX10 : ∀ j, j < 5 → defaultValue (tyX10 j) = vp_V [.null, .int 0, .int 0, .null, .null] j := by
  intro j hj
  match j, hj with
  | 0, _ => rfl
  | 1, _ => rfl
  | 2, _ => rfl
  | 3, _ => rfl
  | 4, _ => rfl
  | j + 5, hj => exact absurd hj (by omega)
theorem vz_dfX11 : ∀ j, j < 13 → defaultValue (tyX11 j) = vp_V [.null, .null, .null, .null, .null, .null, .int 0, .null, .null, .null, .null, .null, .null] j := by
  intro j hj
  match j, hj with
  | 0, _ => rfl
  | 1, _ => rfl
  | 2, _ => rfl
  | 3, _ => rfl
  | 4, _ => rfl
  | 5, _ => rfl
  | 6, _ => rfl
  | 7, _ => rfl
  | 8, _ => rfl
  | 9, _ => rfl
  | 10, _ => rfl
  | 11, _ => rfl
  | 12, _ => rfl
  | j + 13, hj => exact absurd hj (by omega)
theorem vz_dfX12 : ∀ j, j < 59 → defaultValue (tyX12 j) = vp_V [.int 0, .null, .null, .int 0, .null, .null, .null, .null, .null, .int 0, .null, .null, .null, .null, .null, .null, .null, .null, .null, .null, .null, .null, .int 0, .null, .null, .null, .null, .null, .null, .int 0, .int 0, .null, .int 0, .null, .int 0, .null, .int 0, .null, .int 0, .null, .null, .null, .null, .null, .int 0, .int 0, .int 0, .int 0, .int 0, .int 0, .int 0, .int 0, .null, .int 0, .null, .int 0, .null, .null, .null] j := by
  intro j hj
  match j, hj with
  | 0, _ => rfl
  | 1, _ => rfl
  | 2, _ => rfl
  | 3, _ => rfl
  | 4, _ => rfl
  | 5, _ => rfl
  | 6, _ => rfl
  | 7, _ => rfl
  | 8, _ => rfl
  | 9, _ => rfl
  | 10, _ => rfl
  | 11, _ => rfl
  | 12, _ => rfl
  | 13, _ => rfl
  | 14, _ => rfl
  | 15, _ => rfl
  | 16, _ => rfl
  | 17, _ => rfl
  | 18, _ => rfl
  | 19, _ => rfl
  | 20, _ => rfl
  | 21, _ => rfl
  | 22, _ => rfl
  | 23, _ => rfl
  | 24, _ => rfl
  | 25, _ => rfl
  | 26, _ => rfl
  | 27, _ => rfl
  | 28, _ => rfl
  | 29, _ => rfl
  | 30, _ => rfl
  | 31, _ => rfl
  | 32, _ => rfl
  | 33, _ => rfl
  | 34, _ => rfl
  | 35, _ => rfl
  | 36, _ => rfl
  | 37, _ => rfl
  | 38, _ => rfl
  | 39, _ => rfl
  | 40, _ => rfl
  | 41, _ => rfl
  | 42, _ => rfl
  | 43, _ => rfl
  | 44, _ => rfl
  | 45, _ => rfl
  | 46, _ => rfl
  | 47, _ => rfl
  | 48, _ => rfl
  | 49, _ => rfl
  | 50, _ => rfl
  | 51, _ => rfl
  | 52, _ => rfl
  | 53, _ => rfl
  | 54, _ => rfl
  | 55, _ => rfl
  | 56, _ => rfl
  | 57, _ => rfl
  | 58, _ => rfl
  | j + 59, hj => exact absurd hj (by omega)
end
section
/-! states, worlds of numbered cells, and walks that carry a function's equation -/
noncomputable abbrev S2 : Type := (Nat → Nat → Int32) × (Nat → Nat → Int64)
noncomputable abbrev ux_F : Type := Nat → (Nat → Int32) → (Nat → Int64) → va_E
noncomputable def ux_I (σ : S2) (k : Nat) (g : Nat → Int32) : S2 := (fun j => if j = k then g else σ.1 j, σ.2)
noncomputable def ux_L (σ : S2) (k : Nat) (g : Nat → Int64) : S2 := (σ.1, fun j => if j = k then g else σ.2 j)
/-- one element or int field of cell k set -/
noncomputable def ux_wI (σ : S2) (k i : Nat) (x : Int32) : S2 := ux_I σ k (upd (σ.1 k) i x)
noncomputable def ux_wL (σ : S2) (k i : Nat) (x : Int64) : S2 := ux_L σ k (vp_updL (σ.2 k) i x)
noncomputable def wG (cell : ux_F) (ad : Nat → Nat) (N : Nat) (σ : S2) : va_W := (List.range N).map (fun k => (ad k, cell k (σ.1 k) (σ.2 k)))
theorem wG_at {cell : ux_F} {ad : Nat → Nat} {N : Nat} {σ : S2} {k : Nat} (h : k < N) : (wG cell ad N σ)[k]? = some (ad k, cell k (σ.1 k) (σ.2 k)) := by
  unfold wG
  rw [List.getElem?_map, List.getElem?_range h]
  rfl
theorem wG_of {cell : ux_F} {ad : Nat → Nat} {N : Nat} {σ : S2} {k : Nat} (h : k < N) {E : va_E} (hE : cell k (σ.1 k) (σ.2 k) = E) : (wG cell ad N σ)[k]? = some (ad k, E) := by rw [← hE]; exact wG_at h
theorem wG_setI {cell : ux_F} {ad : Nat → Nat} {N : Nat} {σ : S2} {k : Nat} {g : Nat → Int32} {E : va_E} (hE : cell k g (σ.2 k) = E) : (wG cell ad N σ).set k (ad k, E) = wG cell ad N (ux_I σ k g) := by
  subst hE
  apply List.ext_getElem?
  intro j
  by_cases hj : j = k
  · subst hj
    by_cases h : j < N
    · rw [List.getElem?_set_self (by unfold wG; simpa using h), wG_at h]
      show _ = some (ad j, cell j (if j = j then g else σ.1 j) (σ.2 j))
      rw [if_pos rfl]
    · rw [List.getElem?_eq_none (by unfold wG; simp; omega), List.getElem?_eq_none (by unfold wG; simp; omega)]
  · rw [List.getElem?_set_ne (fun h => hj h.symm)]
    by_cases h : j < N
    · rw [wG_at h, wG_at h]
      show _ = some (ad j, cell j (if j = k then g else σ.1 j) (σ.2 j))
      rw [if_neg hj]
    · rw [List.getElem?_eq_none (by unfold wG; simp; omega), List.getElem?_eq_none (by unfold wG; simp; omega)]
theorem wG_setL {cell : ux_F} {ad : Nat → Nat} {N : Nat} {σ : S2} {k : Nat} {g : Nat → Int64} {E : va_E} (hE : cell k (σ.1 k) g = E) : (wG cell ad N σ).set k (ad k, E) = wG cell ad N (ux_L σ k g) := by
  subst hE
  apply List.ext_getElem?
  intro j
  by_cases hj : j = k
  · subst hj
    by_cases h : j < N
    · rw [List.getElem?_set_self (by unfold wG; simpa using h), wG_at h]
      show _ = some (ad j, cell j (σ.1 j) (if j = j then g else σ.2 j))
      rw [if_pos rfl]
    · rw [List.getElem?_eq_none (by unfold wG; simp; omega), List.getElem?_eq_none (by unfold wG; simp; omega)]
  · rw [List.getElem?_set_ne (fun h => hj h.symm)]
    by_cases h : j < N
    · rw [wG_at h, wG_at h]
      show _ = some (ad j, cell j (σ.1 j) (if j = k then g else σ.2 j))
      rw [if_neg hj]
    · rw [List.getElem?_eq_none (by unfold wG; simp; omega), List.getElem?_eq_none (by unfold wG; simp; omega)]
/-- a named value -/
noncomputable def nm {α β : Type} (a : α) (K : α → β) : β := K a
/-- an element is there, or nothing -/
noncomputable def ck {β : Type} (n : Nat) (i : Int32) (K : Option β) : Option β := if i < 0 ∨ n ≤ i.toNatClampNeg then none else K
noncomputable def dz {β : Type} (y : Int32) (K : Option β) : Option β := if y = 0 then none else K
noncomputable def bi {α β : Type} (o : Option α) (K : α → Option β) : Option β := o.bind K
noncomputable def bs {α β : Type} (o : Option (α × S2)) (K : α → S2 → Option β) : Option β := o.bind (fun x => K x.1 x.2)
theorem nmS {α β : Type} {a f : α} {K : α → β} {o : β} (h : nm a K = o) (e : f = a) : K f = o := e ▸ h
theorem ckS {β : Type} {n : Nat} {i : Int32} {K : Option β} {o : β} (h : ck n i K = some o) : vp_in i n ∧ K = some o := by
  unfold ck at h
  split at h
  · cases h
  · exact ⟨by unfold vp_in; assumption, h⟩
theorem dzS {β : Type} {y : Int32} {K : Option β} {o : β} (h : dz y K = some o) : ¬ y = 0 ∧ K = some o := by
  unfold dz at h
  split at h
  · cases h
  · exact ⟨by assumption, h⟩
theorem biS {α β : Type} {a : Option α} {K : α → Option β} {o : β} (h : bi a K = some o) : ∃ x, a = some x ∧ K x = some o := Option.bind_eq_some_iff.mp h
theorem bsS {α β : Type} {a : Option (α × S2)} {K : α → S2 → Option β} {o : β} (h : bs a K = some o) : ∃ x σ, a = some (x, σ) ∧ K x σ = some o := by
  obtain ⟨⟨x, σ⟩, h1, h2⟩ := Option.bind_eq_some_iff.mp h
  exact ⟨x, σ, h1, h2⟩
theorem cdP {β : Type} {c : Prop} [Decidable c] {a b o : β} (hc : c) (h : (if c then a else b) = o) : a = o := (if_pos hc).symm.trans h
theorem cdN {β : Type} {c : Prop} [Decidable c] {a b o : β} (hc : ¬ c) (h : (if c then a else b) = o) : b = o := (if_neg hc).symm.trans h
theorem va_Dm {A B : Nat → Prop} {ws : va_W} (h : va_D A ws) (hs : ∀ q, A q → B q) : va_D B ws := ⟨h.1, fun k q hk => hs _ (h.2 k q hk)⟩
theorem va_AD {A0 : Nat → Prop} {ws : va_W} {H0 H : Heap} {locs : List Loc} (hD : va_D A0 ws) (hS : va_S A0 H0 H locs) (hA : ∀ q, H0.size ≤ q → A0 q) : ∀ q, va_A ws H.size q → A0 q := by
  intro q h
  rcases h with ⟨k, e, h⟩ | h
  · exact hD.2 k _ h
  · exact hA q (Nat.le_trans hS.1 h)
section UX
variable {p : Program} {l : Launch} {e : Env} {R : Room} {s : State} {m : MethodId} {args : Array Value} {below : List Frame} {meth : Method} {c : Code} {H : Heap} {locs : List Loc} {cells slots : Nat} {Q : State → Prop} {pc : Nat} {ls : Array Slot} {rest : List Value} {cc : ByteArray}
variable {cell : ux_F} {ad : Nat → Nat} {N : Nat} {σ : S2} {D : va_G} {cl : List vw_C} {tys : List (ClassId × FieldType)} {A : Nat → Prop} {H0 : Heap} {β : Type} {o : β}
theorem ux_iald (hexec : p.tables.exec = Jvm.exec) (hb : c.code = cc) (hK : va_K D cl tys s) (hP : va_P D cl (wG cell ad N σ) H) (k t0 : Nat) (hk : k < N) {cA : ClassId} {n : Nat} (hE : cell k (σ.1 k) (σ.2 k) = .inl (cA, n, .inl (σ.1 k))) (ht : tys[t0]? = some (cA, .int)) {i : Int32} {K : Int32 → Option β} (h : ck n i (nm (σ.1 k i.toNatClampNeg) K) = some o) (hdg : decode cc pc = .ok (.iaload, 1))
    (kk : ∀ v, K v = some o → W p l e R s m args below meth c H locs cells slots Q (F0 m (pc + 1) ls (.int v :: rest))) : W p l e R s m args below meth c H locs cells slots Q (F0 m pc ls (.int i :: .ref (ad k) :: rest)) := by
  obtain ⟨hin, h⟩ := ckS h
  exact va_iald hexec hb hK hP k t0 (wG_of hk hE) ht hin hdg (kk _ h)
theorem ux_bald (hexec : p.tables.exec = Jvm.exec) (hb : c.code = cc) (hK : va_K D cl tys s) (hP : va_P D cl (wG cell ad N σ) H) (k t0 : Nat) (hk : k < N) {cA : ClassId} {n : Nat} (hE : cell k (σ.1 k) (σ.2 k) = .inl (cA, n, .inl (σ.1 k))) (ht : tys[t0]? = some (cA, .byte)) {i : Int32} {K : Int32 → Option β} (h : ck n i (nm (σ.1 k i.toNatClampNeg) K) = some o) (hdg : decode cc pc = .ok (.baload, 1))
    (kk : ∀ v, K v = some o → W p l e R s m args below meth c H locs cells slots Q (F0 m (pc + 1) ls (.int v :: rest))) : W p l e R s m args below meth c H locs cells slots Q (F0 m pc ls (.int i :: .ref (ad k) :: rest)) := by
  obtain ⟨hin, h⟩ := ckS h
  exact va_bald hexec hb hK hP k t0 (wG_of hk hE) ht hin hdg (kk _ h)
theorem ux_zald (hexec : p.tables.exec = Jvm.exec) (hb : c.code = cc) (hK : va_K D cl tys s) (hP : va_P D cl (wG cell ad N σ) H) (k t0 : Nat) (hk : k < N) {cA : ClassId} {n : Nat} (hE : cell k (σ.1 k) (σ.2 k) = .inl (cA, n, .inl (σ.1 k))) (ht : tys[t0]? = some (cA, .boolean)) {i : Int32} {K : Int32 → Option β} (h : ck n i (nm (σ.1 k i.toNatClampNeg) K) = some o) (hdg : decode cc pc = .ok (.baload, 1))
    (kk : ∀ v, K v = some o → W p l e R s m args below meth c H locs cells slots Q (F0 m (pc + 1) ls (.int v :: rest))) : W p l e R s m args below meth c H locs cells slots Q (F0 m pc ls (.int i :: .ref (ad k) :: rest)) := by
  obtain ⟨hin, h⟩ := ckS h
  exact va_zald hexec hb hK hP k t0 (wG_of hk hE) ht hin hdg (kk _ h)
theorem ux_sald (hexec : p.tables.exec = Jvm.exec) (hb : c.code = cc) (hK : va_K D cl tys s) (hP : va_P D cl (wG cell ad N σ) H) (k t0 : Nat) (hk : k < N) {cA : ClassId} {n : Nat} (hE : cell k (σ.1 k) (σ.2 k) = .inl (cA, n, .inl (σ.1 k))) (ht : tys[t0]? = some (cA, .short)) {i : Int32} {K : Int32 → Option β} (h : ck n i (nm (σ.1 k i.toNatClampNeg) K) = some o) (hdg : decode cc pc = .ok (.saload, 1))
    (kk : ∀ v, K v = some o → W p l e R s m args below meth c H locs cells slots Q (F0 m (pc + 1) ls (.int v :: rest))) : W p l e R s m args below meth c H locs cells slots Q (F0 m pc ls (.int i :: .ref (ad k) :: rest)) := by
  obtain ⟨hin, h⟩ := ckS h
  exact va_sald hexec hb hK hP k t0 (wG_of hk hE) ht hin hdg (kk _ h)
theorem ux_lald (hexec : p.tables.exec = Jvm.exec) (hb : c.code = cc) (hK : va_K D cl tys s) (hP : va_P D cl (wG cell ad N σ) H) (k t0 : Nat) (hk : k < N) {cA : ClassId} {n : Nat} (hE : cell k (σ.1 k) (σ.2 k) = .inl (cA, n, .inr (.inl (σ.2 k)))) (ht : tys[t0]? = some (cA, .long)) {i : Int32} {K : Int64 → Option β} (h : ck n i (nm (σ.2 k i.toNatClampNeg) K) = some o) (hdg : decode cc pc = .ok (.laload, 1))
    (kk : ∀ v, K v = some o → W p l e R s m args below meth c H locs cells slots Q (F0 m (pc + 1) ls (.long v :: rest))) : W p l e R s m args below meth c H locs cells slots Q (F0 m pc ls (.int i :: .ref (ad k) :: rest)) := by
  obtain ⟨hin, h⟩ := ckS h
  exact va_lald hexec hb hK hP k t0 (wG_of hk hE) ht hin hdg (kk _ h)
theorem ux_iast (hexec : p.tables.exec = Jvm.exec) (hb : c.code = cc) (hK : va_K D cl tys s) (hP : va_P D cl (wG cell ad N σ) H) (hD : va_D A (wG cell ad N σ)) (hS : va_S A H0 H locs) (k t0 : Nat) (hk : k < N) {cA : ClassId} {n : Nat} (hE : ∀ g, cell k g (σ.2 k) = .inl (cA, n, .inl g)) (ht : tys[t0]? = some (cA, .int)) {i x : Int32} {K : S2 → Option β} (h : ck n i (nm (ux_wI σ k i.toNatClampNeg x) K) = some o) (hdg : decode cc pc = .ok (.iastore, 1))
    (kk : ∀ (σ1 : S2) (H1 : Heap) (locs1 : List Loc), K σ1 = some o → va_P D cl (wG cell ad N σ1) H1 → va_D A (wG cell ad N σ1) → va_S A H0 H1 locs1 → W p l e R s m args below meth c H1 locs1 cells slots Q (F0 m (pc + 1) ls rest)) : W p l e R s m args below meth c H locs cells slots Q (F0 m pc ls (.int x :: .int i :: .ref (ad k) :: rest)) := by
  obtain ⟨hin, h⟩ := ckS h
  refine va_iast hexec hb hK hP hD hS k t0 (wG_of hk (hE _)) ht hin hdg fun H1 locs1 hP hD hS => ?_
  rw [wG_setI (hE _)] at hP hD
  exact kk _ H1 locs1 h hP hD hS
theorem ux_bast (hexec : p.tables.exec = Jvm.exec) (hb : c.code = cc) (hK : va_K D cl tys s) (hP : va_P D cl (wG cell ad N σ) H) (hD : va_D A (wG cell ad N σ)) (hS : va_S A H0 H locs) (k t0 : Nat) (hk : k < N) {cA : ClassId} {n : Nat} (hE : ∀ g, cell k g (σ.2 k) = .inl (cA, n, .inl g)) (ht : tys[t0]? = some (cA, .byte)) {i x : Int32} {K : S2 → Option β} (h : ck n i (nm (ux_wI σ k i.toNatClampNeg (vp_nar .byte x)) K) = some o) (hdg : decode cc pc = .ok (.bastore, 1))
    (kk : ∀ (σ1 : S2) (H1 : Heap) (locs1 : List Loc), K σ1 = some o → va_P D cl (wG cell ad N σ1) H1 → va_D A (wG cell ad N σ1) → va_S A H0 H1 locs1 → W p l e R s m args below meth c H1 locs1 cells slots Q (F0 m (pc + 1) ls rest)) : W p l e R s m args below meth c H locs cells slots Q (F0 m pc ls (.int x :: .int i :: .ref (ad k) :: rest)) := by
  obtain ⟨hin, h⟩ := ckS h
  refine va_bast hexec hb hK hP hD hS k t0 (wG_of hk (hE _)) ht hin hdg fun H1 locs1 hP hD hS => ?_
  rw [wG_setI (hE _)] at hP hD
  exact kk _ H1 locs1 h hP hD hS
theorem ux_zast (hexec : p.tables.exec = Jvm.exec) (hb : c.code = cc) (hK : va_K D cl tys s) (hP : va_P D cl (wG cell ad N σ) H) (hD : va_D A (wG cell ad N σ)) (hS : va_S A H0 H locs) (k t0 : Nat) (hk : k < N) {cA : ClassId} {n : Nat} (hE : ∀ g, cell k g (σ.2 k) = .inl (cA, n, .inl g)) (ht : tys[t0]? = some (cA, .boolean)) {i x : Int32} {K : S2 → Option β} (h : ck n i (nm (ux_wI σ k i.toNatClampNeg (vp_nar .boolean x)) K) = some o) (hdg : decode cc pc = .ok (.bastore, 1))
    (kk : ∀ (σ1 : S2) (H1 : Heap) (locs1 : List Loc), K σ1 = some o → va_P D cl (wG cell ad N σ1) H1 → va_D A (wG cell ad N σ1) → va_S A H0 H1 locs1 → W p l e R s m args below meth c H1 locs1 cells slots Q (F0 m (pc + 1) ls rest)) : W p l e R s m args below meth c H locs cells slots Q (F0 m pc ls (.int x :: .int i :: .ref (ad k) :: rest)) := by
  obtain ⟨hin, h⟩ := ckS h
  refine va_zast hexec hb hK hP hD hS k t0 (wG_of hk (hE _)) ht hin hdg fun H1 locs1 hP hD hS => ?_
  rw [wG_setI (hE _)] at hP hD
  exact kk _ H1 locs1 h hP hD hS
theorem ux_sast (hexec : p.tables.exec = Jvm.exec) (hb : c.code = cc) (hK : va_K D cl tys s) (hP : va_P D cl (wG cell ad N σ) H) (hD : va_D A (wG cell ad N σ)) (hS : va_S A H0 H locs) (k t0 : Nat) (hk : k < N) {cA : ClassId} {n : Nat} (hE : ∀ g, cell k g (σ.2 k) = .inl (cA, n, .inl g)) (ht : tys[t0]? = some (cA, .short)) {i x : Int32} {K : S2 → Option β} (h : ck n i (nm (ux_wI σ k i.toNatClampNeg (vp_nar .short x)) K) = some o) (hdg : decode cc pc = .ok (.sastore, 1))
    (kk : ∀ (σ1 : S2) (H1 : Heap) (locs1 : List Loc), K σ1 = some o → va_P D cl (wG cell ad N σ1) H1 → va_D A (wG cell ad N σ1) → va_S A H0 H1 locs1 → W p l e R s m args below meth c H1 locs1 cells slots Q (F0 m (pc + 1) ls rest)) : W p l e R s m args below meth c H locs cells slots Q (F0 m pc ls (.int x :: .int i :: .ref (ad k) :: rest)) := by
  obtain ⟨hin, h⟩ := ckS h
  refine va_sast hexec hb hK hP hD hS k t0 (wG_of hk (hE _)) ht hin hdg fun H1 locs1 hP hD hS => ?_
  rw [wG_setI (hE _)] at hP hD
  exact kk _ H1 locs1 h hP hD hS
theorem ux_last (hexec : p.tables.exec = Jvm.exec) (hb : c.code = cc) (hK : va_K D cl tys s) (hP : va_P D cl (wG cell ad N σ) H) (hD : va_D A (wG cell ad N σ)) (hS : va_S A H0 H locs) (k t0 : Nat) (hk : k < N) {cA : ClassId} {n : Nat} (hE : ∀ g, cell k (σ.1 k) g = .inl (cA, n, .inr (.inl g))) (ht : tys[t0]? = some (cA, .long)) {i : Int32} {x : Int64} {K : S2 → Option β} (h : ck n i (nm (ux_wL σ k i.toNatClampNeg x) K) = some o) (hdg : decode cc pc = .ok (.lastore, 1))
    (kk : ∀ (σ1 : S2) (H1 : Heap) (locs1 : List Loc), K σ1 = some o → va_P D cl (wG cell ad N σ1) H1 → va_D A (wG cell ad N σ1) → va_S A H0 H1 locs1 → W p l e R s m args below meth c H1 locs1 cells slots Q (F0 m (pc + 1) ls rest)) : W p l e R s m args below meth c H locs cells slots Q (F0 m pc ls (.long x :: .int i :: .ref (ad k) :: rest)) := by
  obtain ⟨hin, h⟩ := ckS h
  refine va_last hexec hb hK hP hD hS k t0 (wG_of hk (hE _)) ht hin hdg fun H1 locs1 hP hD hS => ?_
  rw [wG_setL (hE _)] at hP hD
  exact kk _ H1 locs1 h hP hD hS
theorem ux_get (hexec : p.tables.exec = Jvm.exec) (hb : c.code = cc) {own ref C : String} {T : u_T} {M ci index : Nat} {Ts : List Cond} (hts : ∀ w ∈ Ts, w.before args s = true) (hin : ∀ w ∈ u_ws C T M, w ∈ Ts) (hown : s.vm.findClass own = some m.cls) (hK : va_K D cl tys s) (hP : va_P D cl (wG cell ad N σ) H) (q0 : Nat) (hk0 : q0 < N) {fs : List Value} (he : cell q0 (σ.1 q0) (σ.2 q0) = .inr (ci, fs)) (hc : cl[ci]? = some (C, T, M)) (k : Nat) (hk : k < M) (hlink : (Cond.fieldLink own index ref (T k).2.1 (T k).2.2.1).before args s = true) (hsame : ∀ x, s.fieldFound? (T k).1 (T k).2.1 (T k).2.2.1 = some x → s.fieldFound? ref (T k).2.1 (T k).2.2.1 = some x) {v : Value} (hv : fs[k]? = some v) (hdg : decode cc pc = .ok (.getfield index, 3))
    (kk : W p l e R s m args below meth c H locs cells slots Q (F0 m (pc + 3) ls (v :: rest))) : W p l e R s m args below meth c H locs cells slots Q (F0 m pc ls (.ref (ad q0) :: rest)) :=
  va_get hexec hb hts hin hown hK hP q0 (wG_of hk0 he) hc k hk hlink hsame hv hdg kk
theorem ux_put (hexec : p.tables.exec = Jvm.exec) (hb : c.code = cc) {own ref C : String} {T : u_T} {M ci index : Nat} {Ts : List Cond} (hts : ∀ w ∈ Ts, w.before args s = true) (hin : ∀ w ∈ u_ws C T M, w ∈ Ts) (ty0 : Nat → FieldType) (hty : ∀ k, k < M → parseFieldDescriptor (T k).2.2.1 = some (ty0 k)) (hnm : ∀ a, a < M → ∀ b, b < M → a ≠ b → (T a).2.1 ≠ (T b).2.1) (hown : s.vm.findClass own = some m.cls) (hK : va_K D cl tys s) (hP : va_P D cl (wG cell ad N σ) H) (hD : va_D A (wG cell ad N σ)) (hS : va_S A H0 H locs) (q0 : Nat) (hk0 : q0 < N) {fs : List Value} (he : cell q0 (σ.1 q0) (σ.2 q0) = .inr (ci, fs)) (hc : cl[ci]? = some (C, T, M)) (k : Nat) (hk : k < M) (hlink : (Cond.fieldLink own index ref (T k).2.1 (T k).2.2.1).before args s = true) (hsame : ∀ x, s.fieldFound? (T k).1 (T k).2.1 (T k).2.2.1 = some x → s.fieldFound? ref (T k).2.1 (T k).2.2.1 = some x) (hfin : (T k).2.2.2 = false) {ty : FieldType} {x : Int32} (hd : parseFieldDescriptor (T k).2.2.1 = some ty) (hn : narrow ty (.int x) = .int x) (hfit : fits ty (.int x) = true) (hl : k < fs.length) (hset : cell q0 (upd (σ.1 q0) k x) (σ.2 q0) = .inr (ci, fs.set k (.int x))) {K : S2 → Option β} (h : nm (ux_wI σ q0 k x) K = some o)
    (hdg : decode cc pc = .ok (.putfield index, 3)) (kk : ∀ (σ1 : S2) (H1 : Heap) (locs1 : List Loc), K σ1 = some o → va_P D cl (wG cell ad N σ1) H1 → va_D A (wG cell ad N σ1) → va_S A H0 H1 locs1 → W p l e R s m args below meth c H1 locs1 cells slots Q (F0 m (pc + 3) ls rest)) : W p l e R s m args below meth c H locs cells slots Q (F0 m pc ls (.int x :: .ref (ad q0) :: rest)) := by
  refine va_put hexec hb hts hin ty0 hty hnm hown hK hP hD hS q0 (wG_of hk0 he) hc k hk hlink hsame hfin hd hn hfit hl hdg fun H1 locs1 hP hD hS => ?_
  rw [wG_setI hset] at hP hD
  exact kk _ H1 locs1 h hP hD hS
theorem ux_alen (hexec : p.tables.exec = Jvm.exec) (hb : c.code = cc) (hK : va_K D cl tys s) (hP : va_P D cl (wG cell ad N σ) H) (k t0 : Nat) (hk : k < N) {cA : ClassId} {x : vp_A} (hE : cell k (σ.1 k) (σ.2 k) = .inl (cA, x)) {ty : FieldType} (ht : tys[t0]? = some (cA, ty)) {v : Int32} (hv : Int32.ofNat x.1 = v) (hdg : decode cc pc = .ok (.arraylength, 1))
    (kk : W p l e R s m args below meth c H locs cells slots Q (F0 m (pc + 1) ls (.int v :: rest))) : W p l e R s m args below meth c H locs cells slots Q (F0 m pc ls (.ref (ad k) :: rest)) :=
  va_alen hexec hb hK hP k t0 (wG_of hk hE) ht hv hdg kk
theorem ux_calli {st0 : List Value} {r0 : Int32} {σ1 : S2} {a : Array Value} (hr : va_Run p l e R s m args below meth c H locs cells slots 0 0 (F0 m pc ls st0) rest (va_Qi (fun (r : Int32) (_ : Unit) => r = r0) (fun (_ : Unit) t => wAt D (va_A (wG cell ad N σ) H.size) (wG cell ad N σ1) t) (va_A (wG cell ad N σ) H.size) a) (va_A (wG cell ad N σ) H.size)) (hD : va_D A (wG cell ad N σ)) (hS : va_S A H0 H locs) (hA : ∀ q, H0.size ≤ q → A q)
    (kk : ∀ (H1 : Heap) (locs1 : List Loc), va_P D vwCl (wG cell ad N σ1) H1 → va_D A (wG cell ad N σ1) → va_S A H0 H1 locs1 → W p l e R s m args below meth c H1 locs1 cells slots Q (F0 m (pc + 3) ls (.int r0 :: rest))) : W p l e R s m args below meth c H locs cells slots Q (F0 m pc ls st0) := by
  have hF := va_AD hD hS hA
  refine va_calli hr hS (fun q _ h => hF q h) hF (fun r u t H1 locs1 ht hvm hw hB hz hk hS => ?_)
  obtain ⟨hP1, hD1⟩ := hB
  rw [ht] at hP1
  subst hw
  exact kk H1 locs1 hP1 (va_Dm hD1 hF) hS
theorem ux_calll {st0 : List Value} {r0 : Int64} {σ1 : S2} {a : Array Value} (hr : va_Run p l e R s m args below meth c H locs cells slots 0 0 (F0 m pc ls st0) rest (va_Ql (fun (r : Int64) (_ : Unit) => r = r0) (fun (_ : Unit) t => wAt D (va_A (wG cell ad N σ) H.size) (wG cell ad N σ1) t) (va_A (wG cell ad N σ) H.size) a) (va_A (wG cell ad N σ) H.size)) (hD : va_D A (wG cell ad N σ)) (hS : va_S A H0 H locs) (hA : ∀ q, H0.size ≤ q → A q)
    (kk : ∀ (H1 : Heap) (locs1 : List Loc), va_P D vwCl (wG cell ad N σ1) H1 → va_D A (wG cell ad N σ1) → va_S A H0 H1 locs1 → W p l e R s m args below meth c H1 locs1 cells slots Q (F0 m (pc + 3) ls (.long r0 :: rest))) : W p l e R s m args below meth c H locs cells slots Q (F0 m pc ls st0) := by
  have hF := va_AD hD hS hA
  refine va_calll hr hS (fun q _ h => hF q h) hF (fun r u t H1 locs1 ht hvm hw hB hz hk hS => ?_)
  obtain ⟨hP1, hD1⟩ := hB
  rw [ht] at hP1
  subst hw
  exact kk H1 locs1 hP1 (va_Dm hD1 hF) hS
theorem ux_callv {st0 : List Value} {σ1 : S2} {a : Array Value} (hr : va_Run p l e R s m args below meth c H locs cells slots 0 0 (F0 m pc ls st0) rest (va_Qv (fun (_ : Unit) => True) (fun (_ : Unit) t => wAt D (va_A (wG cell ad N σ) H.size) (wG cell ad N σ1) t) (va_A (wG cell ad N σ) H.size) a) (va_A (wG cell ad N σ) H.size)) (hD : va_D A (wG cell ad N σ)) (hS : va_S A H0 H locs) (hA : ∀ q, H0.size ≤ q → A q)
    (kk : ∀ (H1 : Heap) (locs1 : List Loc), va_P D vwCl (wG cell ad N σ1) H1 → va_D A (wG cell ad N σ1) → va_S A H0 H1 locs1 → W p l e R s m args below meth c H1 locs1 cells slots Q (F0 m (pc + 3) ls rest)) : W p l e R s m args below meth c H locs cells slots Q (F0 m pc ls st0) := by
  have hF := va_AD hD hS hA
  refine va_callv hr hS (fun q _ h => hF q h) hF (fun u t H1 locs1 ht hvm hw hB hz hk hS => ?_)
  obtain ⟨hP1, hD1⟩ := hB
  rw [ht] at hP1
  exact kk H1 locs1 hP1 (va_Dm hD1 hF) hS
end UX
end
section
noncomputable def oM (ad : Nat → Nat) (g : Nat → Int32) : List Value := [.int (g 0), .ref (ad 1), .ref (ad 2), .int (g 3), .ref (ad 3), .ref (ad 4), .ref (ad 5), .ref (ad 6), .ref (ad 7), .int (g 9), .ref (ad 8), .ref (ad 9), .ref (ad 10), .ref (ad 11), .ref (ad 12), .ref (ad 13), .ref (ad 14), .ref (ad 15), .ref (ad 16), .ref (ad 17), .ref (ad 18), .ref (ad 19), .int (g 22), .ref (ad 20), .ref (ad 21), .ref (ad 22), .ref (ad 23), .ref (ad 24), .ref (ad 25), .int (g 29), .int (g 30), .ref (ad 26), .int (g 32), .ref (ad 27), .int (g 34), .ref (ad 28), .int (g 36), .ref (ad 29), .int (g 38), .ref (ad 30), .ref (ad 31), .ref (ad 32), .ref (ad 33), .ref (ad 34), .int (g 44), .int (g 45), .int (g 46), .int (g 47), .int (g 48), .int (g 49), .int (g 50), .int (g 51), .ref (ad 35), .int (g 53), .ref (ad 36), .int (g 55), .ref (ad 37), .ref (ad 38), .ref (ad 39)]
noncomputable def cM (cy : Nat → ClassId) (ad : Nat → Nat) (k : Nat) (g : Nat → Int32) (q : Nat → Int64) : va_E := match k with
  | 0 => .inr (12, oM ad g)
  | 1 => .inl (cy 0, 40, .inl g)
  | 2 => .inl (cy 0, 240, .inl g)
  | 3 => .inl (cy 0, 12, .inl g)
  | 4 => .inl (cy 0, 12, .inl g)
  | 5 => .inl (cy 0, 12, .inl g)
  | 6 => .inl (cy 0, 12, .inl g)
  | 7 => .inl (cy 2, 12, .inl g)
  | 8 => .inl (cy 0, 11, .inl g)
  | 9 => .inl (cy 0, 11, .inl g)
  | 10 => .inl (cy 0, 11, .inl g)
  | 11 => .inl (cy 0, 11, .inl g)
  | 12 => .inl (cy 0, 11, .inl g)
  | 13 => .inl (cy 0, 11, .inl g)
  | 14 => .inl (cy 0, 880, .inl g)
  | 15 => .inl (cy 0, 132, .inl g)
  | 16 => .inl (cy 0, 132, .inl g)
  | 17 => .inl (cy 0, 11, .inl g)
  | 18 => .inl (cy 0, 11000, .inl g)
  | 19 => .inl (cy 0, 80, .inl g)
  | 20 => .inl (cy 0, 480, .inl g)
  | 21 => .inl (cy 0, 480, .inl g)
  | 22 => .inl (cy 0, 480, .inl g)
  | 23 => .inl (cy 0, 480, .inl g)
  | 24 => .inl (cy 0, 480, .inl g)
  | 25 => .inl (cy 0, 40, .inl g)
  | 26 => .inl (cy 0, 5, .inl g)
  | 27 => .inl (cy 0, 5, .inl g)
  | 28 => .inl (cy 0, 6, .inl g)
  | 29 => .inl (cy 0, 24, .inl g)
  | 30 => .inl (cy 0, 6, .inl g)
  | 31 => .inl (cy 0, 6, .inl g)
  | 32 => .inl (cy 0, 6, .inl g)
  | 33 => .inl (cy 4, 360, .inr (.inl q))
  | 34 => .inl (cy 0, 6, .inl g)
  | 35 => .inl (cy 0, 12, .inl g)
  | 36 => .inl (cy 0, 4, .inl g)
  | 37 => .inl (cy 0, 12, .inl g)
  | 38 => .inl (cy 0, 1280, .inl g)
  | 39 => .inl (cy 0, 5, .inl g)
  | _ => .inr (12, [])
theorem cM_1 (cy : Nat → ClassId) (ad : Nat → Nat) (g : Nat → Int32) (q : Nat → Int64) : cM cy ad 1 g q = .inl (cy 0, 40, .inl g) := rfl
theorem cM_2 (cy : Nat → ClassId) (ad : Nat → Nat) (g : Nat → Int32) (q : Nat → Int64) : cM cy ad 2 g q = .inl (cy 0, 240, .inl g) := rfl
theorem cM_3 (cy : Nat → ClassId) (ad : Nat → Nat) (g : Nat → Int32) (q : Nat → Int64) : cM cy ad 3 g q = .inl (cy 0, 12, .inl g) := rfl
theorem cM_4 (cy : Nat → ClassId) (ad : Nat → Nat) (g : Nat → Int32) (q : Nat → Int64) : cM cy ad 4 g q = .inl (cy 0, 12, .inl g) := rfl
theorem cM_5 (cy : Nat → ClassId) (ad : Nat → Nat) (g : Nat → Int32) (q : Nat → Int64) : cM cy ad 5 g q = .inl (cy 0, 12, .inl g) := rfl
theorem cM_6 (cy : Nat → ClassId) (ad : Nat → Nat) (g : Nat → Int32) (q : Nat → Int64) : cM cy ad 6 g q = .inl (cy 0, 12, .inl g) := rfl
theorem cM_7 (cy : Nat → ClassId) (ad : Nat → Nat) (g : Nat → Int32) (q : Nat → Int64) : cM cy ad 7 g q = .inl (cy 2, 12, .inl g) := rfl
theorem cM_8 (cy : Nat → ClassId) (ad : Nat → Nat) (g : Nat → Int32) (q : Nat → Int64) : cM cy ad 8 g q = .inl (cy 0, 11, .inl g) := rfl
theorem cM_9 (cy : Nat → ClassId) (ad : Nat → Nat) (g : Nat → Int32) (q : Nat → Int64) : cM cy ad 9 g q = .inl (cy 0, 11, .inl g) := rfl
theorem cM_10 (cy : Nat → ClassId) (ad : Nat → Nat) (g : Nat → Int32) (q : Nat → Int64) : cM cy ad 10 g q = .inl (cy 0, 11, .inl g) := rfl
theorem cM_11 (cy : Nat → ClassId) (ad : Nat → Nat) (g : Nat → Int32) (q : Nat → Int64) : cM cy ad 11 g q = .inl (cy 0, 11, .inl g) := rfl
theorem cM_12 (cy : Nat → ClassId) (ad : Nat → Nat) (g : Nat → Int32) (q : Nat → Int64) : cM cy ad 12 g q = .inl (cy 0, 11, .inl g) := rfl
theorem cM_13 (cy : Nat → ClassId) (ad : Nat → Nat) (g : Nat → Int32) (q : Nat → Int64) : cM cy ad 13 g q = .inl (cy 0, 11, .inl g) := rfl
theorem cM_14 (cy : Nat → ClassId) (ad : Nat → Nat) (g : Nat → Int32) (q : Nat → Int64) : cM cy ad 14 g q = .inl (cy 0, 880, .inl g) := rfl
theorem cM_15 (cy : Nat → ClassId) (ad : Nat → Nat) (g : Nat → Int32) (q : Nat → Int64) : cM cy ad 15 g q = .inl (cy 0, 132, .inl g) := rfl
theorem cM_16 (cy : Nat → ClassId) (ad : Nat → Nat) (g : Nat → Int32) (q : Nat → Int64) : cM cy ad 16 g q = .inl (cy 0, 132, .inl g) := rfl
theorem cM_17 (cy : Nat → ClassId) (ad : Nat → Nat) (g : Nat → Int32) (q : Nat → Int64) : cM cy ad 17 g q = .inl (cy 0, 11, .inl g) := rfl
theorem cM_18 (cy : Nat → ClassId) (ad : Nat → Nat) (g : Nat → Int32) (q : Nat → Int64) : cM cy ad 18 g q = .inl (cy 0, 11000, .inl g) := rfl
theorem cM_19 (cy : Nat → ClassId) (ad : Nat → Nat) (g : Nat → Int32) (q : Nat → Int64) : cM cy ad 19 g q = .inl (cy 0, 80, .inl g) := rfl
theorem cM_20 (cy : Nat → ClassId) (ad : Nat → Nat) (g : Nat → Int32) (q : Nat → Int64) : cM cy ad 20 g q = .inl (cy 0, 480, .inl g) := rfl
theorem cM_21 (cy : Nat → ClassId) (ad : Nat → Nat) (g : Nat → Int32) (q : Nat → Int64) : cM cy ad 21 g q = .inl (cy 0, 480, .inl g) := rfl
theorem cM_22 (cy : Nat → ClassId) (ad : Nat → Nat) (g : Nat → Int32) (q : Nat → Int64) : cM cy ad 22 g q = .inl (cy 0, 480, .inl g) := rfl
theorem cM_23 (cy : Nat → ClassId) (ad : Nat → Nat) (g : Nat → Int32) (q : Nat → Int64) : cM cy ad 23 g q = .inl (cy 0, 480, .inl g) := rfl
theorem cM_24 (cy : Nat → ClassId) (ad : Nat → Nat) (g : Nat → Int32) (q : Nat → Int64) : cM cy ad 24 g q = .inl (cy 0, 480, .inl g) := rfl
theorem cM_25 (cy : Nat → ClassId) (ad : Nat → Nat) (g : Nat → Int32) (q : Nat → Int64) : cM cy ad 25 g q = .inl (cy 0, 40, .inl g) := rfl
theorem cM_26 (cy : Nat → ClassId) (ad : Nat → Nat) (g : Nat → Int32) (q : Nat → Int64) : cM cy ad 26 g q = .inl (cy 0, 5, .inl g) := rfl
theorem cM_27 (cy : Nat → ClassId) (ad : Nat → Nat) (g : Nat → Int32) (q : Nat → Int64) : cM cy ad 27 g q = .inl (cy 0, 5, .inl g) := rfl
theorem cM_28 (cy : Nat → ClassId) (ad : Nat → Nat) (g : Nat → Int32) (q : Nat → Int64) : cM cy ad 28 g q = .inl (cy 0, 6, .inl g) := rfl
theorem cM_29 (cy : Nat → ClassId) (ad : Nat → Nat) (g : Nat → Int32) (q : Nat → Int64) : cM cy ad 29 g q = .inl (cy 0, 24, .inl g) := rfl
theorem cM_30 (cy : Nat → ClassId) (ad : Nat → Nat) (g : Nat → Int32) (q : Nat → Int64) : cM cy ad 30 g q = .inl (cy 0, 6, .inl g) := rfl
theorem cM_31 (cy : Nat → ClassId) (ad : Nat → Nat) (g : Nat → Int32) (q : Nat → Int64) : cM cy ad 31 g q = .inl (cy 0, 6, .inl g) := rfl
theorem cM_32 (cy : Nat → ClassId) (ad : Nat → Nat) (g : Nat → Int32) (q : Nat → Int64) : cM cy ad 32 g q = .inl (cy 0, 6, .inl g) := rfl
theorem cM_33 (cy : Nat → ClassId) (ad : Nat → Nat) (g : Nat → Int32) (q : Nat → Int64) : cM cy ad 33 g q = .inl (cy 4, 360, .inr (.inl q)) := rfl
theorem cM_34 (cy : Nat → ClassId) (ad : Nat → Nat) (g : Nat → Int32) (q : Nat → Int64) : cM cy ad 34 g q = .inl (cy 0, 6, .inl g) := rfl
theorem cM_35 (cy : Nat → ClassId) (ad : Nat → Nat) (g : Nat → Int32) (q : Nat → Int64) : cM cy ad 35 g q = .inl (cy 0, 12, .inl g) := rfl
theorem cM_36 (cy : Nat → ClassId) (ad : Nat → Nat) (g : Nat → Int32) (q : Nat → Int64) : cM cy ad 36 g q = .inl (cy 0, 4, .inl g) := rfl
theorem cM_37 (cy : Nat → ClassId) (ad : Nat → Nat) (g : Nat → Int32) (q : Nat → Int64) : cM cy ad 37 g q = .inl (cy 0, 12, .inl g) := rfl
theorem cM_38 (cy : Nat → ClassId) (ad : Nat → Nat) (g : Nat → Int32) (q : Nat → Int64) : cM cy ad 38 g q = .inl (cy 0, 1280, .inl g) := rfl
theorem cM_39 (cy : Nat → ClassId) (ad : Nat → Nat) (g : Nat → Int32) (q : Nat → Int64) : cM cy ad 39 g q = .inl (cy 0, 5, .inl g) := rfl
theorem oM_set_0 (cy : Nat → ClassId) (ad : Nat → Nat) (g : Nat → Int32) (q : Nat → Int64) (x : Int32) : cM cy ad 0 (upd g 0 x) q = .inr (12, (oM ad g).set 0 (.int x)) := rfl
theorem oM_set_3 (cy : Nat → ClassId) (ad : Nat → Nat) (g : Nat → Int32) (q : Nat → Int64) (x : Int32) : cM cy ad 0 (upd g 3 x) q = .inr (12, (oM ad g).set 3 (.int x)) := rfl
theorem oM_set_9 (cy : Nat → ClassId) (ad : Nat → Nat) (g : Nat → Int32) (q : Nat → Int64) (x : Int32) : cM cy ad 0 (upd g 9 x) q = .inr (12, (oM ad g).set 9 (.int x)) := rfl
theorem oM_set_22 (cy : Nat → ClassId) (ad : Nat → Nat) (g : Nat → Int32) (q : Nat → Int64) (x : Int32) : cM cy ad 0 (upd g 22 x) q = .inr (12, (oM ad g).set 22 (.int x)) := rfl
theorem oM_set_29 (cy : Nat → ClassId) (ad : Nat → Nat) (g : Nat → Int32) (q : Nat → Int64) (x : Int32) : cM cy ad 0 (upd g 29 x) q = .inr (12, (oM ad g).set 29 (.int x)) := rfl
theorem oM_set_30 (cy : Nat → ClassId) (ad : Nat → Nat) (g : Nat → Int32) (q : Nat → Int64) (x : Int32) : cM cy ad 0 (upd g 30 x) q = .inr (12, (oM ad g).set 30 (.int x)) := rfl
theorem oM_set_32 (cy : Nat → ClassId) (ad : Nat → Nat) (g : Nat → Int32) (q : Nat → Int64) (x : Int32) : cM cy ad 0 (upd g 32 x) q = .inr (12, (oM ad g).set 32 (.int x)) := rfl
theorem oM_set_34 (cy : Nat → ClassId) (ad : Nat → Nat) (g : Nat → Int32) (q : Nat → Int64) (x : Int32) : cM cy ad 0 (upd g 34 x) q = .inr (12, (oM ad g).set 34 (.int x)) := rfl
theorem oM_set_36 (cy : Nat → ClassId) (ad : Nat → Nat) (g : Nat → Int32) (q : Nat → Int64) (x : Int32) : cM cy ad 0 (upd g 36 x) q = .inr (12, (oM ad g).set 36 (.int x)) := rfl
theorem oM_set_38 (cy : Nat → ClassId) (ad : Nat → Nat) (g : Nat → Int32) (q : Nat → Int64) (x : Int32) : cM cy ad 0 (upd g 38 x) q = .inr (12, (oM ad g).set 38 (.int x)) := rfl
theorem oM_set_44 (cy : Nat → ClassId) (ad : Nat → Nat) (g : Nat → Int32) (q : Nat → Int64) (x : Int32) : cM cy ad 0 (upd g 44 x) q = .inr (12, (oM ad g).set 44 (.int x)) := rfl
theorem oM_set_45 (cy : Nat → ClassId) (ad : Nat → Nat) (g : Nat → Int32) (q : Nat → Int64) (x : Int32) : cM cy ad 0 (upd g 45 x) q = .inr (12, (oM ad g).set 45 (.int x)) := rfl
theorem oM_set_46 (cy : Nat → ClassId) (ad : Nat → Nat) (g : Nat → Int32) (q : Nat → Int64) (x : Int32) : cM cy ad 0 (upd g 46 x) q = .inr (12, (oM ad g).set 46 (.int x)) := rfl
theorem oM_set_47 (cy : Nat → ClassId) (ad : Nat → Nat) (g : Nat → Int32) (q : Nat → Int64) (x : Int32) : cM cy ad 0 (upd g 47 x) q = .inr (12, (oM ad g).set 47 (.int x)) := rfl
theorem oM_set_48 (cy : Nat → ClassId) (ad : Nat → Nat) (g : Nat → Int32) (q : Nat → Int64) (x : Int32) : cM cy ad 0 (upd g 48 x) q = .inr (12, (oM ad g).set 48 (.int x)) := rfl
theorem oM_set_49 (cy : Nat → ClassId) (ad : Nat → Nat) (g : Nat → Int32) (q : Nat → Int64) (x : Int32) : cM cy ad 0 (upd g 49 x) q = .inr (12, (oM ad g).set 49 (.int x)) := rfl
theorem oM_set_50 (cy : Nat → ClassId) (ad : Nat → Nat) (g : Nat → Int32) (q : Nat → Int64) (x : Int32) : cM cy ad 0 (upd g 50 x) q = .inr (12, (oM ad g).set 50 (.int x)) := rfl
theorem oM_set_51 (cy : Nat → ClassId) (ad : Nat → Nat) (g : Nat → Int32) (q : Nat → Int64) (x : Int32) : cM cy ad 0 (upd g 51 x) q = .inr (12, (oM ad g).set 51 (.int x)) := rfl
theorem oM_set_53 (cy : Nat → ClassId) (ad : Nat → Nat) (g : Nat → Int32) (q : Nat → Int64) (x : Int32) : cM cy ad 0 (upd g 53 x) q = .inr (12, (oM ad g).set 53 (.int x)) := rfl
theorem oM_set_55 (cy : Nat → ClassId) (ad : Nat → Nat) (g : Nat → Int32) (q : Nat → Int64) (x : Int32) : cM cy ad 0 (upd g 55 x) q = .inr (12, (oM ad g).set 55 (.int x)) := rfl
noncomputable def FU : Nat := 100000
noncomputable def zb {β : Type} (v : Int32) (K : Option β) : Option β := if narrow .boolean (.int v) = .int v then K else none
theorem zbS {β : Type} {v : Int32} {K : Option β} {o : β} (h : zb v K = some o) : narrow .boolean (.int v) = .int v ∧ K = some o := by
  unfold zb at h
  split at h
  · exact ⟨by assumption, h⟩
  · cases h
noncomputable def zf {β : Type} (v : Int32) (K : Option β) : Option β := if narrow .boolean (.int v) = .int v ∧ fits .boolean (.int v) = true then K else none
theorem zfS {β : Type} {v : Int32} {K : Option β} {o : β} (h : zf v K = some o) : (narrow .boolean (.int v) = .int v ∧ fits .boolean (.int v) = true) ∧ K = some o := by
  unfold zf at h
  split at h
  · exact ⟨by assumption, h⟩
  · cases h
section UR
variable {p : Program} {l : Launch} {e : Env} {R : Room} {s : State} {m : MethodId} {args : Array Value} {below : List Frame} {meth : Method} {c : Code} {H : Heap} {locs : List Loc} {cells slots : Nat} {pc : Nat} {ls : Array Slot} {cc : ByteArray}
variable {cell : ux_F} {ad : Nat → Nat} {N : Nat} {σ σ9 : S2} {D : va_G} {A : Nat → Prop} {H0 : Heap}
theorem ux_iret (hx : p.tables.exec = Jvm.exec) (hb : c.code = cc) (hr : meth.sig.returnType = some .int) {v r0 : Int32} (h : some (v, σ) = some (r0, σ9)) (hP : va_P D vwCl (wG cell ad N σ) H) (hD : va_D A (wG cell ad N σ)) (hS : va_S A s.heap H locs) (hlocks : meth.locks = false) (hdg : decode cc pc = .ok (.ireturn, 1)) : W p l e R s m args below meth c H locs cells slots (MQ below (va_Qi (fun (r : Int32) (_ : Unit) => r = r0) (fun (_ : Unit) t => wAt D A (wG cell ad N σ9) t) A) args s cells slots A) (F0 m pc ls [.int v]) := by
  cases h
  exact W.iret (v := v) hx hb hr (fun t ht hW => ⟨⟨v, (), rfl, rfl, ⟨by rw [ht]; exact hP, hD⟩⟩, hS.F ht⟩) hS.2.2 hdg
theorem ux_zret (hx : p.tables.exec = Jvm.exec) (hb : c.code = cc) (hr : meth.sig.returnType = some .boolean) {v r0 : Int32} (hn : narrow .boolean (.int v) = .int v) (h : some (v, σ) = some (r0, σ9)) (hP : va_P D vwCl (wG cell ad N σ) H) (hD : va_D A (wG cell ad N σ)) (hS : va_S A s.heap H locs) (hlocks : meth.locks = false) (hdg : decode cc pc = .ok (.ireturn, 1)) : W p l e R s m args below meth c H locs cells slots (MQ below (va_Qi (fun (r : Int32) (_ : Unit) => r = r0) (fun (_ : Unit) t => wAt D A (wG cell ad N σ9) t) A) args s cells slots A) (F0 m pc ls [.int v]) := by
  cases h
  exact W.zret (v := v) hx hb hr hn (fun t ht hW => ⟨⟨v, (), rfl, rfl, ⟨by rw [ht]; exact hP, hD⟩⟩, hS.F ht⟩) hS.2.2 hdg
theorem ux_lret (hx : p.tables.exec = Jvm.exec) (hb : c.code = cc) (hr : meth.sig.returnType = some .long) {v r0 : Int64} (h : some (v, σ) = some (r0, σ9)) (hP : va_P D vwCl (wG cell ad N σ) H) (hD : va_D A (wG cell ad N σ)) (hS : va_S A s.heap H locs) (hlocks : meth.locks = false) (hdg : decode cc pc = .ok (.lreturn, 1)) : W p l e R s m args below meth c H locs cells slots (MQ below (va_Ql (fun (r : Int64) (_ : Unit) => r = r0) (fun (_ : Unit) t => wAt D A (wG cell ad N σ9) t) A) args s cells slots A) (F0 m pc ls [.long v]) := by
  cases h
  exact W.lret (v := v) hx hb hr (fun t ht hW => ⟨⟨v, (), rfl, rfl, ⟨by rw [ht]; exact hP, hD⟩⟩, hS.F ht⟩) hS.2.2 hdg
theorem ux_vret (hx : p.tables.exec = Jvm.exec) (hb : c.code = cc) (hr : meth.sig.returnType = none) {r0 : Unit} (h : some ((), σ) = some (r0, σ9)) (hP : va_P D vwCl (wG cell ad N σ) H) (hD : va_D A (wG cell ad N σ)) (hS : va_S A s.heap H locs) (hlocks : meth.locks = false) (hdg : decode cc pc = .ok (.return_, 1)) : W p l e R s m args below meth c H locs cells slots (MQ below (va_Qv (fun (_ : Unit) => True) (fun (_ : Unit) t => wAt D A (wG cell ad N σ9) t) A) args s cells slots A) (F0 m pc ls []) := by
  cases h
  exact W.vret hx hb hr (fun t ht hW => ⟨⟨(), rfl, trivial, ⟨by rw [ht]; exact hP, hD⟩⟩, hS.F ht⟩) hS.2.2 hdg
theorem ux_iretP (hx : p.tables.exec = Jvm.exec) (hb : c.code = cc) (hr : meth.sig.returnType = some .int) {v r0 : Int32} (h : some v = some r0) (hP : va_P D vwCl (wG cell ad N σ) H) (hD : va_D A (wG cell ad N σ)) (hS : va_S A s.heap H locs) (hlocks : meth.locks = false) (hdg : decode cc pc = .ok (.ireturn, 1)) : W p l e R s m args below meth c H locs cells slots (MQ below (va_Qi (fun (r : Int32) (_ : Unit) => r = r0) (fun (_ : Unit) t => wAt D A (wG cell ad N σ) t) A) args s cells slots A) (F0 m pc ls [.int v]) := by
  cases h
  exact W.iret (v := v) hx hb hr (fun t ht hW => ⟨⟨v, (), rfl, rfl, ⟨by rw [ht]; exact hP, hD⟩⟩, hS.F ht⟩) hS.2.2 hdg
theorem ux_zretP (hx : p.tables.exec = Jvm.exec) (hb : c.code = cc) (hr : meth.sig.returnType = some .boolean) {v r0 : Int32} (hn : narrow .boolean (.int v) = .int v) (h : some v = some r0) (hP : va_P D vwCl (wG cell ad N σ) H) (hD : va_D A (wG cell ad N σ)) (hS : va_S A s.heap H locs) (hlocks : meth.locks = false) (hdg : decode cc pc = .ok (.ireturn, 1)) : W p l e R s m args below meth c H locs cells slots (MQ below (va_Qi (fun (r : Int32) (_ : Unit) => r = r0) (fun (_ : Unit) t => wAt D A (wG cell ad N σ) t) A) args s cells slots A) (F0 m pc ls [.int v]) := by
  cases h
  exact W.zret (v := v) hx hb hr hn (fun t ht hW => ⟨⟨v, (), rfl, rfl, ⟨by rw [ht]; exact hP, hD⟩⟩, hS.F ht⟩) hS.2.2 hdg
theorem ux_lretP (hx : p.tables.exec = Jvm.exec) (hb : c.code = cc) (hr : meth.sig.returnType = some .long) {v r0 : Int64} (h : some v = some r0) (hP : va_P D vwCl (wG cell ad N σ) H) (hD : va_D A (wG cell ad N σ)) (hS : va_S A s.heap H locs) (hlocks : meth.locks = false) (hdg : decode cc pc = .ok (.lreturn, 1)) : W p l e R s m args below meth c H locs cells slots (MQ below (va_Ql (fun (r : Int64) (_ : Unit) => r = r0) (fun (_ : Unit) t => wAt D A (wG cell ad N σ) t) A) args s cells slots A) (F0 m pc ls [.long v]) := by
  cases h
  exact W.lret (v := v) hx hb hr (fun t ht hW => ⟨⟨v, (), rfl, rfl, ⟨by rw [ht]; exact hP, hD⟩⟩, hS.F ht⟩) hS.2.2 hdg
end UR
end
section
noncomputable def fX12_in_0  (σ : S2) (x0 : Int32) (x1 : Int32) (x2 : Int32) : Option Int32 := if x0 < x1 then some (0) else if x2 < x0 then some (0) else some (1)
noncomputable def fX12_in (σ : S2) (a0 : Int32) (a1 : Int32) (a2 : Int32) : Option Int32 := fX12_in_0 σ a0 a1 a2
noncomputable def fX12_isName_0  (σ : S2) (x1 : Int32) : Option Int32 := bi (fX12_in σ x1 0 ((σ.1 0 0) - 1)) (fun r1 => zb r1 (some (r1)))
noncomputable def fX12_isName (σ : S2) (a1 : Int32) : Option Int32 := fX12_isName_0 σ a1
noncomputable def fX12_isKeeper_0  (σ : S2) (x1 : Int32) : Option Int32 := bi (fX12_in σ x1 0 ((σ.1 0 3) - 1)) (fun r1 => zb r1 (some (r1)))
noncomputable def fX12_isKeeper (σ : S2) (a1 : Int32) : Option Int32 := fX12_isKeeper_0 σ a1
noncomputable def fX12_isTable_0  (σ : S2) (x1 : Int32) : Option Int32 := bi (fX12_in σ x1 0 ((σ.1 0 9) - 1)) (fun r1 => zb r1 (some (r1)))
noncomputable def fX12_isTable (σ : S2) (a1 : Int32) : Option Int32 := fX12_isTable_0 σ a1
noncomputable def fX12_feed_27  : Nat → S2 → Int32 → Int32 → Int32 → Option (Int32 × S2)
  | 0, _, _, _, _ => none
  | n + 1, σ, x1, x2, x3 => if x1 ≤ x3 then some (σ.1 0 22, σ) else ck 80 (σ.1 0 22) (nm (ux_wI σ 19 (Int32.toNatClampNeg (σ.1 0 22)) ((x2 >>> ((8 * x3) &&& 31)) &&& 255)) (fun σ1 => nm (ux_wI σ1 0 22 ((σ1.1 0 22) + 1)) (fun σ2 => nm (x3 + 1) (fun v3 => fX12_feed_27 n σ2 x1 x2 v3))))
noncomputable def fX12_feed_0  (σ : S2) (x1 : Int32) (x2 : Int32) : Option (Int32 × S2) := bi (fX12_in σ x1 1 4) (fun r4 => if r4 = 0 then some ((-1), σ) else if ((σ.1 0 22) + x1) ≤ 80 then fX12_feed_27 FU σ x1 x2 0 else some ((-3), σ))
noncomputable def fX12_feed (σ : S2) (a1 : Int32) (a2 : Int32) : Option (Int32 × S2) := fX12_feed_0 σ a1 a2
noncomputable def fX12_found_73 (k2 : S2 → Int32 → Int32 → Option Int32) (σ : S2) (x1 : Int32) (x2 : Int32) (x3 : Int32) : Option Int32 := if x3 = 0 then nm (x2 + 1) (fun v1 => k2 σ x1 v1) else some (x2)
noncomputable def fX12_found_66 (k29 : S2 → Int32 → Int32 → Int32 → Int32 → Option Int32) (σ : S2) (x1 : Int32) (x2 : Int32) (x4 : Int32) (s0 : Int32) : Option Int32 := nm (x4 + 1) (fun v2 => k29 σ x1 x2 s0 v2)
noncomputable def fX12_found_29 (k2 : S2 → Int32 → Int32 → Option Int32) : Nat → S2 → Int32 → Int32 → Int32 → Int32 → Option Int32
  | 0, _, _, _, _, _ => none
  | n + 1, σ, x1, x2, x3, x4 => if x1 ≤ x4 then fX12_found_73 k2 σ x1 x2 x3 else if x3 = 0 then fX12_found_73 k2 σ x1 x2 x3 else ck 240 ((6 * x2) + x4) (nm (σ.1 2 (Int32.toNatClampNeg ((6 * x2) + x4))) (fun v3 => ck 6 x4 (nm (σ.1 34 (Int32.toNatClampNeg x4)) (fun v4 => if v3 = v4 then fX12_found_66 (fX12_found_29 k2 n) σ x1 x2 x4 1 else fX12_found_66 (fX12_found_29 k2 n) σ x1 x2 x4 0))))
noncomputable def fX12_found_25 (k2 : S2 → Int32 → Int32 → Option Int32) (σ : S2) (x1 : Int32) (x2 : Int32) (s0 : Int32) : Option Int32 := fX12_found_29 k2 FU σ x1 x2 s0 0
noncomputable def fX12_found_2  : Nat → S2 → Int32 → Int32 → Option Int32
  | 0, _, _, _ => none
  | n + 1, σ, x1, x2 => if (σ.1 0 0) ≤ x2 then some ((-1)) else ck 40 x2 (nm (σ.1 1 (Int32.toNatClampNeg x2)) (fun v5 => if v5 = x1 then fX12_found_25 (fX12_found_2 n) σ x1 x2 1 else fX12_found_25 (fX12_found_2 n) σ x1 x2 0))
noncomputable def fX12_found_0  (σ : S2) (x1 : Int32) : Option Int32 := fX12_found_2 FU σ x1 0
noncomputable def fX12_found (σ : S2) (a1 : Int32) : Option Int32 := fX12_found_0 σ a1
noncomputable def fX12_comesName_12  : Nat → S2 → Int32 → Int32 → Option (Unit × S2)
  | 0, _, _, _ => none
  | n + 1, σ, x1, x2 => if x1 ≤ x2 then nm (ux_wI σ 0 0 ((σ.1 0 0) + 1)) (fun σ1 => some ((), σ1)) else ck 6 x2 (nm (σ.1 34 (Int32.toNatClampNeg x2)) (fun v2 => ck 240 ((6 * (σ.1 0 0)) + x2) (nm (ux_wI σ 2 (Int32.toNatClampNeg ((6 * (σ.1 0 0)) + x2)) v2) (fun σ3 => nm (x2 + 1) (fun v4 => fX12_comesName_12 n σ3 x1 v4)))))
noncomputable def fX12_comesName_0  (σ : S2) (x1 : Int32) : Option (Unit × S2) := ck 40 (σ.1 0 0) (nm (ux_wI σ 1 (Int32.toNatClampNeg (σ.1 0 0)) x1) (fun σ5 => fX12_comesName_12 FU σ5 x1 0))
noncomputable def fX12_comesName (σ : S2) (a1 : Int32) : Option (Unit × S2) := fX12_comesName_0 σ a1
noncomputable def fX12_name_85  (σ : S2) (x1 : Int32) : Option (Int32 × S2) := nm (ux_wI σ 0 22 0) (fun σ1 => some (x1, σ1))
noncomputable def fX12_name_68  (σ : S2) (x1 : Int32) : Option (Int32 × S2) := if 0 ≤ x1 then fX12_name_85 σ x1 else nm (σ.1 0 0) (fun v2 => bs (fX12_comesName σ (σ.1 0 22)) (fun r3 σ4 => fX12_name_85 σ4 v2))
noncomputable def fX12_name_17  : Nat → S2 → Int32 → Option (Int32 × S2)
  | 0, _, _ => none
  | n + 1, σ, x1 => if (σ.1 0 22) ≤ x1 then bi (fX12_found σ (σ.1 0 22)) (fun r6 => if 0 ≤ r6 then fX12_name_68 σ r6 else if (σ.1 0 0) = 40 then some ((-3), σ) else fX12_name_68 σ r6) else ck 80 x1 (nm (σ.1 19 (Int32.toNatClampNeg x1)) (fun v8 => ck 6 x1 (nm (ux_wI σ 34 (Int32.toNatClampNeg x1) v8) (fun σ9 => nm (x1 + 1) (fun v10 => fX12_name_17 n σ9 v10)))))
noncomputable def fX12_name_0  (σ : S2)  : Option (Int32 × S2) := bi (fX12_in σ (σ.1 0 22) 1 6) (fun r11 => if r11 = 0 then some ((-1), σ) else fX12_name_17 FU σ 0)
noncomputable def fX12_name (σ : S2)  : Option (Int32 × S2) := fX12_name_0 σ
noncomputable def fX12_numberOf_5  : Nat → S2 → Int32 → Int32 → Int32 → Option Int32
  | 0, _, _, _, _ => none
  | n + 1, σ, x1, x3, x4 => ck 40 x1 (nm (σ.1 1 (Int32.toNatClampNeg x1)) (fun v1 => if v1 ≤ x4 then dz (1000 : Int32) (some ((UInt32.toInt32 (Int32.toUInt32 x3 >>> (Int32.toUInt32 7 &&& Int32.toUInt32 31))) - (UInt32.toInt32 (Int32.toUInt32 x3 >>> (Int32.toUInt32 7 &&& Int32.toUInt32 31))) / 1000 * 1000)) else ck 240 ((6 * x1) + x4) (nm (σ.1 2 (Int32.toNatClampNeg ((6 * x1) + x4))) (fun v3 => nm ((x3 ^^^ v3) * 16777619) (fun v4 => nm (x4 + 1) (fun v5 => fX12_numberOf_5 n σ x1 v4 v5))))))
noncomputable def fX12_numberOf_0  (σ : S2) (x1 : Int32) (x2 : Int32) : Option Int32 := fX12_numberOf_5 FU σ x1 x2 0
noncomputable def fX12_numberOf (σ : S2) (a1 : Int32) (a2 : Int32) : Option Int32 := fX12_numberOf_0 σ a1 a2
noncomputable def fX12_number_0  (σ : S2) (x1 : Int32) (x2 : Int32) : Option Int32 := bi (fX12_isName σ x1) (fun r1 => if r1 = 0 then some ((-1)) else bi (fX12_numberOf σ x1 x2) (fun r3 => some (r3)))
noncomputable def fX12_number (σ : S2) (a1 : Int32) (a2 : Int32) : Option Int32 := fX12_number_0 σ a1 a2
noncomputable def fX12_keeper_0  (σ : S2) (x1 : Int32) (x2 : Int32) : Option (Int32 × S2) := bi (fX12_in σ x1 0 5) (fun r1 => if r1 = 0 then some ((-1), σ) else bi (fX12_in σ x2 1 8) (fun r3 => if r3 = 0 then some ((-1), σ) else if (σ.1 0 3) = 12 then some ((-3), σ) else ck 12 (σ.1 0 3) (nm (ux_wI σ 3 (Int32.toNatClampNeg (σ.1 0 3)) x1) (fun σ5 => ck 12 (σ5.1 0 3) (nm (ux_wI σ5 4 (Int32.toNatClampNeg (σ5.1 0 3)) x2) (fun σ6 => nm (ux_wI σ6 0 3 ((σ6.1 0 3) + 1)) (fun σ7 => some ((σ7.1 0 3) - 1, σ7))))))))
noncomputable def fX12_keeper (σ : S2) (a1 : Int32) (a2 : Int32) : Option (Int32 × S2) := fX12_keeper_0 σ a1 a2
noncomputable def fX12_countsNow_21  (σ : S2) (x1 : Int32) : Option Int32 := ck 12 x1 (nm (σ.1 4 (Int32.toNatClampNeg x1)) (fun v1 => some (2 * v1)))
noncomputable def fX12_countsNow_0  (σ : S2) (x1 : Int32) : Option Int32 := ck 12 x1 (nm (σ.1 5 (Int32.toNatClampNeg x1)) (fun v2 => if v2 = 1 then fX12_countsNow_21 σ x1 else ck 12 x1 (nm (σ.1 5 (Int32.toNatClampNeg x1)) (fun v3 => if v3 = 6 then fX12_countsNow_21 σ x1 else ck 12 x1 (nm (σ.1 4 (Int32.toNatClampNeg x1)) (fun v4 => some (v4)))))))
noncomputable def fX12_countsNow (σ : S2) (a1 : Int32) : Option Int32 := fX12_countsNow_0 σ a1
noncomputable def fX12_become_136 (k37 : S2 → Int32 → Int32 → Int32 → Int32 → Option (Int32 × S2)) (σ : S2) (x1 : Int32) (x2 : Int32) (x3 : Int32) (x4 : Int32) : Option (Int32 × S2) := nm (x4 + 1) (fun v1 => k37 σ x1 x2 x3 v1)
noncomputable def fX12_become_118 (k37 : S2 → Int32 → Int32 → Int32 → Int32 → Option (Int32 × S2)) (σ : S2) (x1 : Int32) (x2 : Int32) (x3 : Int32) (x4 : Int32) (s0 : Int32) (s1 : Int32) : Option (Int32 × S2) := ck 480 s1 (nm (ux_wI σ 20 (Int32.toNatClampNeg s1) s0) (fun σ2 => ck 480 x4 (nm (ux_wI σ2 21 (Int32.toNatClampNeg x4) 0) (fun σ3 => ck 480 x4 (nm (ux_wI σ3 22 (Int32.toNatClampNeg x4) (-2)) (fun σ4 => fX12_become_136 k37 σ4 x1 x2 x3 x4))))))
noncomputable def fX12_become_37  : Nat → S2 → Int32 → Int32 → Int32 → Int32 → Option (Int32 × S2)
  | 0, _, _, _, _, _ => none
  | n + 1, σ, x1, x2, x3, x4 => if 480 ≤ x4 then some (x3, σ) else if x3 = 4 then if x2 = 4 then some (x3, σ) else ck 480 x4 (nm (σ.1 22 (Int32.toNatClampNeg x4)) (fun v5 => if v5 = x1 then dz (40 : Int32) (nm ((40 * x1) + (x4 - x4 / 40 * 40)) (fun v7 => ck 480 x4 (nm (σ.1 21 (Int32.toNatClampNeg x4)) (fun v8 => ck 480 v7 (nm (σ.1 20 (Int32.toNatClampNeg v7)) (fun v9 => if v8 ≤ v9 then ck 480 v7 (nm (σ.1 20 (Int32.toNatClampNeg v7)) (fun v10 => fX12_become_118 (fX12_become_37 n) σ x1 x2 x3 x4 v10 v7)) else ck 480 x4 (nm (σ.1 21 (Int32.toNatClampNeg x4)) (fun v11 => fX12_become_118 (fX12_become_37 n) σ x1 x2 x3 x4 v11 v7)))))))) else fX12_become_136 (fX12_become_37 n) σ x1 x2 x3 x4)) else some (x3, σ)
noncomputable def fX12_become_0  (σ : S2) (x1 : Int32) (x2 : Int32) : Option (Int32 × S2) := bi (fX12_isKeeper σ x1) (fun r12 => if r12 = 0 then some ((-1), σ) else bi (fX12_in σ x2 0 6) (fun r14 => if r14 = 0 then some ((-1), σ) else ck 12 x1 (nm (σ.1 5 (Int32.toNatClampNeg x1)) (fun v16 => ck 12 x1 (nm (ux_wI σ 5 (Int32.toNatClampNeg x1) x2) (fun σ17 => fX12_become_37 FU σ17 x1 x2 v16 0))))))
noncomputable def fX12_become (σ : S2) (a1 : Int32) (a2 : Int32) : Option (Int32 × S2) := fX12_become_0 σ a1 a2
noncomputable def fX12_strength_0  (σ : S2) (x1 : Int32) (x2 : Int32) : Option (Int32 × S2) := bi (fX12_isKeeper σ x1) (fun r1 => if r1 = 0 then some ((-1), σ) else bi (fX12_in σ x2 1 8) (fun r3 => if r3 = 0 then some ((-1), σ) else ck 12 x1 (nm (σ.1 4 (Int32.toNatClampNeg x1)) (fun v5 => ck 12 x1 (nm (ux_wI σ 4 (Int32.toNatClampNeg x1) x2) (fun σ6 => some (v5, σ6)))))))
noncomputable def fX12_strength (σ : S2) (a1 : Int32) (a2 : Int32) : Option (Int32 × S2) := fX12_strength_0 σ a1 a2
noncomputable def fX12_many_60 (k5 : S2 → Int32 → Int32 → Int32 → Int32 → Option Int32) (σ : S2) (x1 : Int32) (x2 : Int32) (x4 : Int32) (s0 : Int32) (s1 : Int32) : Option Int32 := nm (s1 + s0) (fun v1 => nm (x4 + 1) (fun v2 => k5 σ x1 x2 v1 v2))
noncomputable def fX12_many_5  : Nat → S2 → Int32 → Int32 → Int32 → Int32 → Option Int32
  | 0, _, _, _, _, _ => none
  | n + 1, σ, x1, x2, x3, x4 => if 40 ≤ x4 then some (x3) else if x2 = 0 then ck 480 ((40 * x1) + x4) (nm (σ.1 21 (Int32.toNatClampNeg ((40 * x1) + x4))) (fun v3 => if v3 ≤ 0 then fX12_many_60 (fX12_many_5 n) σ x1 x2 x4 0 x3 else fX12_many_60 (fX12_many_5 n) σ x1 x2 x4 1 x3)) else ck 480 ((40 * x1) + x4) (nm (σ.1 20 (Int32.toNatClampNeg ((40 * x1) + x4))) (fun v4 => if v4 ≤ 0 then fX12_many_60 (fX12_many_5 n) σ x1 x2 x4 0 x3 else fX12_many_60 (fX12_many_5 n) σ x1 x2 x4 1 x3))
noncomputable def fX12_many_0  (σ : S2) (x1 : Int32) (x2 : Int32) : Option Int32 := fX12_many_5 FU σ x1 x2 0 0
noncomputable def fX12_many (σ : S2) (a1 : Int32) (a2 : Int32) : Option Int32 := fX12_many_0 σ a1 a2
noncomputable def fX12_ofKeeper_0  (σ : S2) (x1 : Int32) (x2 : Int32) : Option Int32 := bi (fX12_isKeeper σ x1) (fun r1 => if r1 = 0 then some ((-2000000000)) else if x2 = 0 then ck 12 x1 (nm (σ.1 5 (Int32.toNatClampNeg x1)) (fun v4 => some (v4))) else if x2 = 1 then ck 12 x1 (nm (σ.1 3 (Int32.toNatClampNeg x1)) (fun v6 => some (v6))) else if x2 = 2 then ck 12 x1 (nm (σ.1 4 (Int32.toNatClampNeg x1)) (fun v8 => some (v8))) else if x2 = 3 then bi (fX12_countsNow σ x1) (fun r10 => some (r10)) else if x2 = 4 then ck 12 x1 (nm (σ.1 6 (Int32.toNatClampNeg x1)) (fun v13 => some (v13))) else if x2 = 5 then bi (fX12_many σ x1 1) (fun r15 => some (r15)) else if x2 = 6 then bi (fX12_many σ x1 0) (fun r18 => some (r18)) else if x2 = 7 then ck 12 x1 (nm (σ.1 7 (Int32.toNatClampNeg x1)) (fun v21 => if v21 = 0 then some (0) else some (1))) else some ((-2000000000)))
noncomputable def fX12_ofKeeper (σ : S2) (a1 : Int32) (a2 : Int32) : Option Int32 := fX12_ofKeeper_0 σ a1 a2
noncomputable def fX12_here_0  (σ : S2)  : Option Int32 := ck 11 (σ.1 0 44) (nm (σ.1 13 (Int32.toNatClampNeg (σ.1 0 44))) (fun v1 => if v1 ≤ (σ.1 0 45) then some ((-1)) else ck 880 ((80 * (σ.1 0 44)) + (σ.1 0 45)) (nm (σ.1 14 (Int32.toNatClampNeg ((80 * (σ.1 0 44)) + (σ.1 0 45)))) (fun v2 => some (v2)))))
noncomputable def fX12_here (σ : S2)  : Option Int32 := fX12_here_0 σ
noncomputable def fX12_eats_28  (σ : S2)  : Option (Unit × S2) := nm (ux_wI σ 0 47 1) (fun σ1 => some ((), σ1))
noncomputable def fX12_eats_0  (σ : S2) (x1 : Int32) : Option (Unit × S2) := if (σ.1 0 47) = 0 then bi (fX12_here σ) (fun r2 => if r2 = x1 then nm (ux_wI σ 0 45 ((σ.1 0 45) + 1)) (fun σ4 => some ((), σ4)) else fX12_eats_28 σ) else fX12_eats_28 σ
noncomputable def fX12_eats (σ : S2) (a1 : Int32) : Option (Unit × S2) := fX12_eats_0 σ a1
noncomputable def fX12_sum_73 (qX12_sum : S2 → Option (Int32 × S2)) (qX12_product : S2 → Option (Int32 × S2)) (qX12_one : S2 → Option (Int32 × S2)) (k5 : S2 → Int32 → Option (Int32 × S2)) (σ : S2) (s0 : Int32) : Option (Int32 × S2) := k5 σ s0
noncomputable def fX12_sum_44 (qX12_sum : S2 → Option (Int32 × S2)) (qX12_product : S2 → Option (Int32 × S2)) (qX12_one : S2 → Option (Int32 × S2)) (k5 : S2 → Int32 → Option (Int32 × S2)) (σ : S2) (x1 : Int32) (s0 : Int32) : Option (Int32 × S2) := nm (ux_wI σ 0 45 ((σ.1 0 45) + 1)) (fun σ1 => bs (qX12_product σ1) (fun r2 σ3 => if s0 = 0 then fX12_sum_73 qX12_sum qX12_product qX12_one k5 σ3 (x1 - r2) else fX12_sum_73 qX12_sum qX12_product qX12_one k5 σ3 (x1 + r2)))
noncomputable def fX12_sum_30 (qX12_sum : S2 → Option (Int32 × S2)) (qX12_product : S2 → Option (Int32 × S2)) (qX12_one : S2 → Option (Int32 × S2)) (k5 : S2 → Int32 → Option (Int32 × S2)) (σ : S2) (x1 : Int32) : Option (Int32 × S2) := bi (fX12_here σ) (fun r5 => if r5 = 43 then fX12_sum_44 qX12_sum qX12_product qX12_one k5 σ x1 1 else fX12_sum_44 qX12_sum qX12_product qX12_one k5 σ x1 0)
noncomputable def fX12_sum_5 (qX12_sum : S2 → Option (Int32 × S2)) (qX12_product : S2 → Option (Int32 × S2)) (qX12_one : S2 → Option (Int32 × S2))  : Nat → S2 → Int32 → Option (Int32 × S2)
  | 0, _, _ => none
  | n + 1, σ, x1 => if (σ.1 0 47) = 0 then bi (fX12_here σ) (fun r7 => if r7 = 43 then fX12_sum_30 qX12_sum qX12_product qX12_one (fX12_sum_5 qX12_sum qX12_product qX12_one n) σ x1 else bi (fX12_here σ) (fun r9 => if r9 = 45 then fX12_sum_30 qX12_sum qX12_product qX12_one (fX12_sum_5 qX12_sum qX12_product qX12_one n) σ x1 else some (x1, σ))) else some (x1, σ)
noncomputable def fX12_sum_0 (qX12_sum : S2 → Option (Int32 × S2)) (qX12_product : S2 → Option (Int32 × S2)) (qX12_one : S2 → Option (Int32 × S2))  (σ : S2)  : Option (Int32 × S2) := bs (qX12_product σ) (fun r11 σ12 => fX12_sum_5 qX12_sum qX12_product qX12_one FU σ12 r11)
noncomputable def eX12_sum (qX12_sum : S2 → Option (Int32 × S2)) (qX12_product : S2 → Option (Int32 × S2)) (qX12_one : S2 → Option (Int32 × S2)) (σ : S2)  : Option (Int32 × S2) := fX12_sum_0 qX12_sum qX12_product qX12_one σ
noncomputable def fX12_product_114 (qX12_sum : S2 → Option (Int32 × S2)) (qX12_product : S2 → Option (Int32 × S2)) (qX12_one : S2 → Option (Int32 × S2)) (k5 : S2 → Int32 → Option (Int32 × S2)) (σ : S2) (s0 : Int32) : Option (Int32 × S2) := k5 σ s0
noncomputable def fX12_product_39 (qX12_sum : S2 → Option (Int32 × S2)) (qX12_product : S2 → Option (Int32 × S2)) (qX12_one : S2 → Option (Int32 × S2)) (k5 : S2 → Int32 → Option (Int32 × S2)) (σ : S2) (x1 : Int32) : Option (Int32 × S2) := bi (fX12_here σ) (fun r1 => nm (ux_wI σ 0 45 ((σ.1 0 45) + 1)) (fun σ3 => bs (qX12_one σ3) (fun r4 σ5 => if r1 = 42 then fX12_product_114 qX12_sum qX12_product qX12_one k5 σ5 (x1 * r4) else if r4 = 0 then fX12_product_114 qX12_sum qX12_product qX12_one k5 σ5 0 else if r4 = (-1) then if r1 = 47 then fX12_product_114 qX12_sum qX12_product qX12_one k5 σ5 (-x1) else fX12_product_114 qX12_sum qX12_product qX12_one k5 σ5 0 else if r1 = 47 then dz r4 (fX12_product_114 qX12_sum qX12_product qX12_one k5 σ5 (x1 / r4)) else dz r4 (fX12_product_114 qX12_sum qX12_product qX12_one k5 σ5 (x1 - x1 / r4 * r4)))))
noncomputable def fX12_product_5 (qX12_sum : S2 → Option (Int32 × S2)) (qX12_product : S2 → Option (Int32 × S2)) (qX12_one : S2 → Option (Int32 × S2))  : Nat → S2 → Int32 → Option (Int32 × S2)
  | 0, _, _ => none
  | n + 1, σ, x1 => if (σ.1 0 47) = 0 then bi (fX12_here σ) (fun r9 => if r9 = 42 then fX12_product_39 qX12_sum qX12_product qX12_one (fX12_product_5 qX12_sum qX12_product qX12_one n) σ x1 else bi (fX12_here σ) (fun r11 => if r11 = 47 then fX12_product_39 qX12_sum qX12_product qX12_one (fX12_product_5 qX12_sum qX12_product qX12_one n) σ x1 else bi (fX12_here σ) (fun r13 => if r13 = 37 then fX12_product_39 qX12_sum qX12_product qX12_one (fX12_product_5 qX12_sum qX12_product qX12_one n) σ x1 else some (x1, σ)))) else some (x1, σ)
noncomputable def fX12_product_0 (qX12_sum : S2 → Option (Int32 × S2)) (qX12_product : S2 → Option (Int32 × S2)) (qX12_one : S2 → Option (Int32 × S2))  (σ : S2)  : Option (Int32 × S2) := bs (qX12_one σ) (fun r15 σ16 => fX12_product_5 qX12_sum qX12_product qX12_one FU σ16 r15)
noncomputable def eX12_product (qX12_sum : S2 → Option (Int32 × S2)) (qX12_product : S2 → Option (Int32 × S2)) (qX12_one : S2 → Option (Int32 × S2)) (σ : S2)  : Option (Int32 × S2) := fX12_product_0 qX12_sum qX12_product qX12_one σ
noncomputable def fX12_one_160 (qX12_sum : S2 → Option (Int32 × S2)) (qX12_product : S2 → Option (Int32 × S2)) (qX12_one : S2 → Option (Int32 × S2))  (σ : S2) (x1 : Int32) : Option (Int32 × S2) := nm (ux_wI σ 0 45 ((σ.1 0 45) + 1)) (fun σ1 => if x1 = 110 then some (σ1.1 0 48, σ1) else if x1 = 117 then some (σ1.1 0 49, σ1) else if x1 = 116 then some (σ1.1 0 50, σ1) else some (σ1.1 0 51, σ1))
noncomputable def fX12_one_136 (qX12_sum : S2 → Option (Int32 × S2)) (qX12_product : S2 → Option (Int32 × S2)) (qX12_one : S2 → Option (Int32 × S2))  (σ : S2) (x1 : Int32) : Option (Int32 × S2) := if x1 = 110 then fX12_one_160 qX12_sum qX12_product qX12_one σ x1 else if x1 = 117 then fX12_one_160 qX12_sum qX12_product qX12_one σ x1 else if x1 = 116 then fX12_one_160 qX12_sum qX12_product qX12_one σ x1 else if x1 = 120 then fX12_one_160 qX12_sum qX12_product qX12_one σ x1 else nm (ux_wI σ 0 47 1) (fun σ2 => some (0, σ2))
noncomputable def fX12_one_29 (qX12_sum : S2 → Option (Int32 × S2)) (qX12_product : S2 → Option (Int32 × S2)) (qX12_one : S2 → Option (Int32 × S2))  : Nat → S2 → Int32 → Int32 → Option (Int32 × S2)
  | 0, _, _, _ => none
  | n + 1, σ, x2, x3 => if 3 ≤ x3 then some (x2, σ) else bi (fX12_here σ) (fun r3 => bi (fX12_in σ r3 48 57) (fun r5 => if r5 = 0 then some (x2, σ) else bi (fX12_here σ) (fun r7 => nm (((10 * x2) + r7) - 48) (fun v9 => nm (ux_wI σ 0 45 ((σ.1 0 45) + 1)) (fun σ10 => nm (x3 + 1) (fun v11 => fX12_one_29 qX12_sum qX12_product qX12_one n σ10 v9 v11))))))
noncomputable def fX12_one_0 (qX12_sum : S2 → Option (Int32 × S2)) (qX12_product : S2 → Option (Int32 × S2)) (qX12_one : S2 → Option (Int32 × S2))  (σ : S2)  : Option (Int32 × S2) := bi (fX12_here σ) (fun r12 => if (σ.1 0 47) = 0 then bi (fX12_in σ r12 48 57) (fun r14 => if r14 = 0 then if r12 = 40 then if 4 ≤ (σ.1 0 46) then fX12_one_136 qX12_sum qX12_product qX12_one σ r12 else nm (ux_wI σ 0 46 ((σ.1 0 46) + 1)) (fun σ16 => nm (ux_wI σ16 0 45 ((σ16.1 0 45) + 1)) (fun σ17 => bs (qX12_sum σ17) (fun r18 σ19 => bs (fX12_eats σ19 41) (fun r21 σ22 => nm (ux_wI σ22 0 46 ((σ22.1 0 46) - 1)) (fun σ24 => some (r18, σ24)))))) else fX12_one_136 qX12_sum qX12_product qX12_one σ r12 else fX12_one_29 qX12_sum qX12_product qX12_one FU σ 0 0) else some (0, σ))
noncomputable def eX12_one (qX12_sum : S2 → Option (Int32 × S2)) (qX12_product : S2 → Option (Int32 × S2)) (qX12_one : S2 → Option (Int32 × S2)) (σ : S2)  : Option (Int32 × S2) := fX12_one_0 qX12_sum qX12_product qX12_one σ
noncomputable def GX12_sum : Nat → Nat → S2 → Option (Int32 × S2)
  | 0, _, _ => none
  | d + 1, 0, σ => eX12_sum (GX12_sum d 0) (GX12_sum d 1) (GX12_sum d 2) σ
  | d + 1, 1, σ => eX12_product (GX12_sum d 0) (GX12_sum d 1) (GX12_sum d 2) σ
  | d + 1, _, σ => eX12_one (GX12_sum d 0) (GX12_sum d 1) (GX12_sum d 2) σ
noncomputable def fX12_sum (σ : S2)  : Option (Int32 × S2) := GX12_sum 24 0 σ
noncomputable def fX12_product (σ : S2)  : Option (Int32 × S2) := GX12_sum 24 1 σ
noncomputable def fX12_one (σ : S2)  : Option (Int32 × S2) := GX12_sum 24 2 σ
noncomputable def fX12_held_0  (σ : S2) (x0 : Int32) : Option Int32 := if 1 ≤ x0 then if x0 ≤ 4 then some (x0) else some (4) else some (1)
noncomputable def fX12_held (σ : S2) (a0 : Int32) : Option Int32 := fX12_held_0 σ a0
noncomputable def fX12_reads_338  (σ : S2)  : Option (Int32 × S2) := some (σ.1 0 45, σ)
noncomputable def fX12_reads_311 (k45 : S2 → Int32 → Int32 → Int32 → Option (Int32 × S2)) (σ : S2) (x1 : Int32) (x2 : Int32) (x3 : Int32) (s0 : Int32) (s1 : Int32) : Option (Int32 × S2) := nm (ux_wI σ 0 45 (s1 + s0)) (fun σ1 => k45 σ1 x1 x2 x3)
noncomputable def fX12_reads_296 (k45 : S2 → Int32 → Int32 → Int32 → Option (Int32 × S2)) (σ : S2) (x1 : Int32) (x2 : Int32) (s0 : Int32) : Option (Int32 × S2) := if s0 = 0 then fX12_reads_311 k45 σ x1 x2 s0 0 (σ.1 0 45) else fX12_reads_311 k45 σ x1 x2 s0 1 (σ.1 0 45)
noncomputable def fX12_reads_295 (k45 : S2 → Int32 → Int32 → Int32 → Option (Int32 × S2)) (σ : S2) (x1 : Int32) (x2 : Int32) : Option (Int32 × S2) := fX12_reads_296 k45 σ x1 x2 0
noncomputable def fX12_reads_275 (k45 : S2 → Int32 → Int32 → Int32 → Option (Int32 × S2)) (σ : S2) (x1 : Int32) (x2 : Int32) : Option (Int32 × S2) := if (σ.1 0 47) = 0 then bi (fX12_here σ) (fun r2 => if r2 = 59 then fX12_reads_296 k45 σ x1 x2 1 else fX12_reads_295 k45 σ x1 x2) else fX12_reads_295 k45 σ x1 x2
noncomputable def fX12_reads_274 (k45 : S2 → Int32 → Int32 → Int32 → Option (Int32 × S2)) (σ : S2) (x1 : Int32) (x2 : Int32) (s0 : Int32) (s1 : Int32) : Option (Int32 × S2) := ck 11 s1 (nm (ux_wI σ 11 (Int32.toNatClampNeg s1) s0) (fun σ4 => fX12_reads_275 k45 σ4 x1 x2))
noncomputable def fX12_reads_251 (k45 : S2 → Int32 → Int32 → Int32 → Option (Int32 × S2)) (σ : S2) (x1 : Int32) (x2 : Int32) (x5 : Int32) (x6 : Int32) (s0 : Int32) (s1 : Int32) : Option (Int32 × S2) := ck 11 s1 (nm (ux_wI σ 10 (Int32.toNatClampNeg s1) s0) (fun σ5 => if x5 = 2 then fX12_reads_274 k45 σ5 x1 x2 x6 x1 else ck 11 x1 (nm (σ5.1 11 (Int32.toNatClampNeg x1)) (fun v6 => fX12_reads_274 k45 σ5 x1 x2 v6 x1))))
noncomputable def fX12_reads_206 (k45 : S2 → Int32 → Int32 → Int32 → Option (Int32 × S2)) (σ : S2) (x1 : Int32) (x2 : Int32) (s0 : Int32) (s1 : Int32) : Option (Int32 × S2) := nm (ux_wI σ 0 45 (s1 + s0)) (fun σ7 => fX12_reads_275 k45 σ7 x1 x2)
noncomputable def fX12_reads_188 (k45 : S2 → Int32 → Int32 → Int32 → Option (Int32 × S2)) (σ : S2) (x1 : Int32) (x2 : Int32) (s0 : Int32) (s1 : Int32) : Option (Int32 × S2) := ck 11 s1 (nm (ux_wI σ 12 (Int32.toNatClampNeg s1) s0) (fun σ8 => if (σ8.1 0 47) = 0 then fX12_reads_206 k45 σ8 x1 x2 1 (σ8.1 0 45) else fX12_reads_206 k45 σ8 x1 x2 0 (σ8.1 0 45)))
noncomputable def fX12_reads_162 (k45 : S2 → Int32 → Int32 → Int32 → Option (Int32 × S2)) (σ : S2) (x1 : Int32) (x2 : Int32) (s0 : Int32) : Option (Int32 × S2) := zf s0 (nm (ux_wI σ 0 47 s0) (fun σ9 => if (σ9.1 0 47) = 0 then bi (fX12_here σ9) (fun r11 => fX12_reads_188 k45 σ9 x1 x2 (r11 - 48) x1) else fX12_reads_188 k45 σ9 x1 x2 0 x1))
noncomputable def fX12_reads_157 (k45 : S2 → Int32 → Int32 → Int32 → Option (Int32 × S2)) (σ : S2) (x1 : Int32) (x2 : Int32) : Option (Int32 × S2) := fX12_reads_162 k45 σ x1 x2 1
noncomputable def fX12_reads_109 (k45 : S2 → Int32 → Int32 → Int32 → Option (Int32 × S2)) (σ : S2) (x1 : Int32) (x2 : Int32) (x4 : Int32) (x5 : Int32) (s0 : Int32) : Option (Int32 × S2) := zf s0 (nm (ux_wI σ 0 47 s0) (fun σ13 => nm (x2 ||| x5) (fun v15 => bs (fX12_eats σ13 x4) (fun r16 σ17 => bs (fX12_eats σ17 32) (fun r19 σ20 => if x5 = 4 then if (σ20.1 0 47) = 0 then bi (fX12_here σ20) (fun r28 => bi (fX12_in σ20 r28 48 50) (fun r30 => if r30 = 0 then fX12_reads_157 k45 σ20 x1 v15 else fX12_reads_162 k45 σ20 x1 v15 0)) else fX12_reads_157 k45 σ20 x1 v15 else if (σ20.1 0 47) = 0 then bs (fX12_sum σ20) (fun r22 σ23 => bi (fX12_held σ23 r22) (fun r25 => if x5 = 1 then fX12_reads_251 k45 σ23 x1 v15 x5 r25 r25 x1 else ck 11 x1 (nm (σ23.1 10 (Int32.toNatClampNeg x1)) (fun v27 => fX12_reads_251 k45 σ23 x1 v15 x5 r25 v27 x1)))) else fX12_reads_275 k45 σ20 x1 v15)))))
noncomputable def fX12_reads_104 (k45 : S2 → Int32 → Int32 → Int32 → Option (Int32 × S2)) (σ : S2) (x1 : Int32) (x2 : Int32) (x4 : Int32) (x5 : Int32) : Option (Int32 × S2) := fX12_reads_109 k45 σ x1 x2 x4 x5 1
noncomputable def fX12_reads_89 (k45 : S2 → Int32 → Int32 → Int32 → Option (Int32 × S2)) (σ : S2) (x1 : Int32) (x2 : Int32) (x4 : Int32) (s0 : Int32) : Option (Int32 × S2) := if s0 = 0 then fX12_reads_104 k45 σ x1 x2 x4 s0 else if (x2 &&& s0) = 0 then fX12_reads_109 k45 σ x1 x2 x4 s0 0 else fX12_reads_104 k45 σ x1 x2 x4 s0
noncomputable def fX12_reads_45  : Nat → S2 → Int32 → Int32 → Int32 → Option (Int32 × S2)
  | 0, _, _, _, _ => none
  | n + 1, σ, x1, x2, x3 => if x3 = 0 then if (σ.1 0 47) = 0 then ck 11 x1 (nm (σ.1 13 (Int32.toNatClampNeg x1)) (fun v32 => if (σ.1 0 45) = v32 then some ((-1), σ) else fX12_reads_338 σ)) else fX12_reads_338 σ else bi (fX12_here σ) (fun r33 => if r33 = 99 then fX12_reads_89 (fX12_reads_45 n) σ x1 x2 r33 1 else if r33 = 115 then fX12_reads_89 (fX12_reads_45 n) σ x1 x2 r33 2 else if r33 = 112 then fX12_reads_89 (fX12_reads_45 n) σ x1 x2 r33 4 else fX12_reads_89 (fX12_reads_45 n) σ x1 x2 r33 0)
noncomputable def fX12_reads_0  (σ : S2) (x1 : Int32) : Option (Int32 × S2) := nm (ux_wI σ 0 44 x1) (fun σ35 => nm (ux_wI σ35 0 45 0) (fun σ36 => nm (ux_wI σ36 0 46 0) (fun σ37 => nm (ux_wI σ37 0 47 0) (fun σ38 => ck 11 x1 (nm (ux_wI σ38 10 (Int32.toNatClampNeg x1) 2) (fun σ39 => ck 11 x1 (nm (ux_wI σ39 11 (Int32.toNatClampNeg x1) 1) (fun σ40 => ck 11 x1 (nm (ux_wI σ40 12 (Int32.toNatClampNeg x1) 0) (fun σ41 => fX12_reads_45 FU σ41 x1 0 1))))))))))
noncomputable def fX12_reads (σ : S2) (a1 : Int32) : Option (Int32 × S2) := fX12_reads_0 σ a1
noncomputable def fX12_mixed_0  (σ : S2) (x0 : Int32) (x1 : Int32) (x2 : Int32) : Option Int32 := dz (1000 : Int32) (some ((UInt32.toInt32 (Int32.toUInt32 (((((x0 * 7919) + (x1 * 104729)) + x2) * 1103515245) + 12345) >>> (Int32.toUInt32 8 &&& Int32.toUInt32 31))) - (UInt32.toInt32 (Int32.toUInt32 (((((x0 * 7919) + (x1 * 104729)) + x2) * 1103515245) + 12345) >>> (Int32.toUInt32 8 &&& Int32.toUInt32 31))) / 1000 * 1000))
noncomputable def fX12_mixed (σ : S2) (a0 : Int32) (a1 : Int32) (a2 : Int32) : Option Int32 := fX12_mixed_0 σ a0 a1 a2
noncomputable def fX12_isIn_0  (σ : S2) (x1 : Int32) (x2 : Int32) : Option Int32 := ck 11 x1 (nm (σ.1 8 (Int32.toNatClampNeg x1)) (fun v1 => if ((v1 >>> (x2 &&& 31)) &&& 1) = 1 then some (1) else some (0)))
noncomputable def fX12_isIn (σ : S2) (a1 : Int32) (a2 : Int32) : Option Int32 := fX12_isIn_0 σ a1 a2
noncomputable def fX12_numbers_145 (k24 : S2 → Int32 → Int32 → Int32 → Option (Unit × S2)) (σ : S2) (x1 : Int32) (x2 : Int32) (x3 : Int32) : Option (Unit × S2) := nm (x3 + 1) (fun v1 => k24 σ x1 x2 v1)
noncomputable def fX12_numbers_142 (k24 : S2 → Int32 → Int32 → Int32 → Option (Unit × S2)) (σ : S2) (x1 : Int32) (x2 : Int32) (x3 : Int32) (s0 : Int32) : Option (Unit × S2) := nm (ux_wI σ 0 51 s0) (fun σ2 => fX12_numbers_145 k24 σ2 x1 x2 x3)
noncomputable def fX12_numbers_92 (k24 : S2 → Int32 → Int32 → Int32 → Option (Unit × S2)) (σ : S2) (x1 : Int32) (x2 : Int32) (x3 : Int32) (x4 : Int32) (s0 : Int32) (s1 : Int32) : Option (Unit × S2) := nm (ux_wI σ 0 49 (s1 + s0)) (fun σ3 => ck 132 ((12 * x1) + x3) (nm (σ3.1 16 (Int32.toNatClampNeg ((12 * x1) + x3))) (fun v4 => nm (x2 ||| (1 <<< (v4 &&& 31))) (fun v5 => nm (ux_wI σ3 0 50 ((σ3.1 0 50) + x4)) (fun σ6 => if x4 ≤ (σ6.1 0 51) then fX12_numbers_142 k24 σ6 x1 v5 x3 (σ6.1 0 51) else fX12_numbers_142 k24 σ6 x1 v5 x3 x4)))))
noncomputable def fX12_numbers_24  : Nat → S2 → Int32 → Int32 → Int32 → Option (Unit × S2)
  | 0, _, _, _, _ => none
  | n + 1, σ, x1, x2, x3 => if (σ.1 0 3) ≤ x3 then some ((), σ) else bi (fX12_isIn σ x1 x3) (fun r7 => if r7 = 0 then fX12_numbers_145 (fX12_numbers_24 n) σ x1 x2 x3 else ck 132 ((12 * x1) + x3) (nm (σ.1 15 (Int32.toNatClampNeg ((12 * x1) + x3))) (fun v9 => nm (ux_wI σ 0 48 ((σ.1 0 48) + 1)) (fun σ10 => ck 132 ((12 * x1) + x3) (nm (σ10.1 16 (Int32.toNatClampNeg ((12 * x1) + x3))) (fun v11 => if ((x2 >>> (v11 &&& 31)) &&& 1) = 0 then fX12_numbers_92 (fX12_numbers_24 n) σ10 x1 x2 x3 v9 1 (σ10.1 0 49) else fX12_numbers_92 (fX12_numbers_24 n) σ10 x1 x2 x3 v9 0 (σ10.1 0 49)))))))
noncomputable def fX12_numbers_0  (σ : S2) (x1 : Int32) : Option (Unit × S2) := nm (ux_wI σ 0 48 0) (fun σ12 => nm (ux_wI σ12 0 49 0) (fun σ13 => nm (ux_wI σ13 0 50 0) (fun σ14 => nm (ux_wI σ14 0 51 0) (fun σ15 => fX12_numbers_24 FU σ15 x1 0 0))))
noncomputable def fX12_numbers (σ : S2) (a1 : Int32) : Option (Unit × S2) := fX12_numbers_0 σ a1
noncomputable def fX12_sits_95 (k75 : S2 → Int32 → Int32 → Int32 → Int32 → Option (Unit × S2)) : Nat → S2 → Int32 → Int32 → Int32 → Int32 → Int32 → Option (Unit × S2)
  | 0, _, _, _, _, _, _ => none
  | n + 1, σ, x1, x2, x3, x4, x5 => ck 11000 ((1000 * x1) + x5) (nm (σ.1 18 (Int32.toNatClampNeg ((1000 * x1) + x5))) (fun v1 => if v1 = (-1) then ck 11000 ((1000 * x1) + x5) (nm (ux_wI σ 18 (Int32.toNatClampNeg ((1000 * x1) + x5)) x2) (fun σ2 => ck 11 x1 (nm (σ2.1 17 (Int32.toNatClampNeg x1)) (fun v3 => ck 11 x1 (nm (ux_wI σ2 17 (Int32.toNatClampNeg x1) (v3 + 1)) (fun σ4 => nm (x4 + 1) (fun v5 => k75 σ4 x1 x2 x3 v5))))))) else dz (1000 : Int32) (nm ((x5 + 1) - (x5 + 1) / 1000 * 1000) (fun v7 => fX12_sits_95 k75 n σ x1 x2 x3 x4 v7))))
noncomputable def fX12_sits_75 (k37 : S2 → Int32 → Int32 → Option (Unit × S2)) : Nat → S2 → Int32 → Int32 → Int32 → Int32 → Option (Unit × S2)
  | 0, _, _, _, _, _ => none
  | n + 1, σ, x1, x2, x3, x4 => if x3 ≤ x4 then nm (x2 + 1) (fun v8 => k37 σ x1 v8) else ck 11 x1 (nm (σ.1 9 (Int32.toNatClampNeg x1)) (fun v9 => bi (fX12_mixed σ x2 x4 v9) (fun r10 => fX12_sits_95 (fX12_sits_75 k37 n) FU σ x1 x2 x3 x4 r10)))
noncomputable def fX12_sits_71 (k37 : S2 → Int32 → Int32 → Option (Unit × S2)) (σ : S2) (x1 : Int32) (x2 : Int32) (s0 : Int32) : Option (Unit × S2) := fX12_sits_75 k37 FU σ x1 x2 s0 0
noncomputable def fX12_sits_37  : Nat → S2 → Int32 → Int32 → Option (Unit × S2)
  | 0, _, _, _ => none
  | n + 1, σ, x1, x2 => if (σ.1 0 3) ≤ x2 then some ((), σ) else bi (fX12_isIn σ x1 x2) (fun r12 => if r12 = 0 then fX12_sits_71 (fX12_sits_37 n) σ x1 x2 0 else ck 132 ((12 * x1) + x2) (nm (σ.1 15 (Int32.toNatClampNeg ((12 * x1) + x2))) (fun v14 => fX12_sits_71 (fX12_sits_37 n) σ x1 x2 (4 * v14))))
noncomputable def fX12_sits_2  : Nat → S2 → Int32 → Int32 → Option (Unit × S2)
  | 0, _, _, _ => none
  | n + 1, σ, x1, x2 => if 1000 ≤ x2 then ck 11 x1 (nm (ux_wI σ 17 (Int32.toNatClampNeg x1) 0) (fun σ15 => fX12_sits_37 FU σ15 x1 0)) else ck 11000 ((1000 * x1) + x2) (nm (ux_wI σ 18 (Int32.toNatClampNeg ((1000 * x1) + x2)) (-1)) (fun σ16 => nm (x2 + 1) (fun v17 => fX12_sits_2 n σ16 x1 v17)))
noncomputable def fX12_sits_0  (σ : S2) (x1 : Int32) : Option (Unit × S2) := fX12_sits_2 FU σ x1 0
noncomputable def fX12_sits (σ : S2) (a1 : Int32) : Option (Unit × S2) := fX12_sits_0 σ a1
noncomputable def fX12_table_115  : Nat → S2 → Int32 → Int32 → Option (Int32 × S2)
  | 0, _, _, _ => none
  | n + 1, σ, x3, x4 => if (σ.1 0 22) ≤ x4 then nm (ux_wI σ 0 22 0) (fun σ1 => bs (fX12_numbers σ1 x3) (fun r2 σ3 => bs (fX12_reads σ3 x3) (fun r5 σ6 => if r5 < 0 then bs (fX12_sits σ6 x3) (fun r8 σ9 => nm (ux_wI σ9 0 9 ((σ9.1 0 9) + 1)) (fun σ11 => some (x3, σ11))) else some ((-100) - r5, σ6)))) else ck 80 x4 (nm (σ.1 19 (Int32.toNatClampNeg x4)) (fun v12 => ck 880 ((80 * x3) + x4) (nm (ux_wI σ 14 (Int32.toNatClampNeg ((80 * x3) + x4)) v12) (fun σ13 => nm (x4 + 1) (fun v14 => fX12_table_115 n σ13 x3 v14)))))
noncomputable def fX12_table_50  : Nat → S2 → Int32 → Int32 → Option (Int32 × S2)
  | 0, _, _, _ => none
  | n + 1, σ, x3, x4 => if (σ.1 0 3) ≤ x4 then ck 11 x3 (nm (ux_wI σ 13 (Int32.toNatClampNeg x3) (σ.1 0 22)) (fun σ15 => fX12_table_115 FU σ15 x3 0)) else bi (fX12_countsNow σ x4) (fun r16 => ck 132 ((12 * x3) + x4) (nm (ux_wI σ 15 (Int32.toNatClampNeg ((12 * x3) + x4)) r16) (fun σ18 => ck 12 x4 (nm (σ18.1 3 (Int32.toNatClampNeg x4)) (fun v19 => ck 132 ((12 * x3) + x4) (nm (ux_wI σ18 16 (Int32.toNatClampNeg ((12 * x3) + x4)) v19) (fun σ20 => nm (x4 + 1) (fun v21 => fX12_table_50 n σ20 x3 v21))))))))
noncomputable def fX12_table_0  (σ : S2) (x1 : Int32) (x2 : Int32) : Option (Int32 × S2) := if x1 ≤ 0 then some ((-1), σ) else if x1 < (1 <<< ((σ.1 0 3) &&& 31)) then if (σ.1 0 9) = 10 then some ((-3), σ) else nm (σ.1 0 9) (fun v22 => ck 11 v22 (nm (ux_wI σ 8 (Int32.toNatClampNeg v22) x1) (fun σ23 => ck 11 v22 (nm (ux_wI σ23 9 (Int32.toNatClampNeg v22) x2) (fun σ24 => fX12_table_50 FU σ24 v22 0))))) else some ((-1), σ)
noncomputable def fX12_table (σ : S2) (a1 : Int32) (a2 : Int32) : Option (Int32 × S2) := fX12_table_0 σ a1 a2
noncomputable def fX12_pickNext_41 (k3 : S2 → Int32 → Int32 → Int32 → Option (Unit × S2)) (σ : S2) (x1 : Int32) (x3 : Int32) (x4 : Int32) : Option (Unit × S2) := dz (1000 : Int32) (nm ((x4 + 1) - (x4 + 1) / 1000 * 1000) (fun v2 => k3 σ x1 x3 v2))
noncomputable def fX12_pickNext_3  : Nat → S2 → Int32 → Int32 → Int32 → Option (Unit × S2)
  | 0, _, _, _, _ => none
  | n + 1, σ, x1, x3, x4 => ck 11000 ((1000 * x1) + x4) (nm (σ.1 18 (Int32.toNatClampNeg ((1000 * x1) + x4))) (fun v3 => if v3 = (-1) then fX12_pickNext_41 (fX12_pickNext_3 n) σ x1 x3 x4 else ck 11000 ((1000 * x1) + x4) (nm (σ.1 18 (Int32.toNatClampNeg ((1000 * x1) + x4))) (fun v4 => if ((x3 >>> (v4 &&& 31)) &&& 1) = 1 then fX12_pickNext_41 (fX12_pickNext_3 n) σ x1 x3 x4 else ck 11000 ((1000 * x1) + x4) (nm (σ.1 18 (Int32.toNatClampNeg ((1000 * x1) + x4))) (fun v5 => ck 12 (σ.1 0 53) (nm (ux_wI σ 35 (Int32.toNatClampNeg (σ.1 0 53)) v5) (fun σ6 => nm (ux_wI σ6 0 53 ((σ6.1 0 53) + 1)) (fun σ7 => some ((), σ7))))))))))
noncomputable def fX12_pickNext_0  (σ : S2) (x1 : Int32) (x2 : Int32) (x3 : Int32) : Option (Unit × S2) := fX12_pickNext_3 FU σ x1 x3 x2
noncomputable def fX12_pickNext (σ : S2) (a1 : Int32) (a2 : Int32) (a3 : Int32) : Option (Unit × S2) := fX12_pickNext_0 σ a1 a2 a3
noncomputable def fX12_pickBest_85 (k9 : S2 → Int32 → Int32 → Int32 → Int32 → Int32 → Int32 → Option (Unit × S2)) (σ : S2) (x1 : Int32) (x2 : Int32) (x3 : Int32) (x4 : Int32) (x5 : Int32) (x6 : Int32) : Option (Unit × S2) := nm (x6 + 1) (fun v1 => k9 σ x1 x2 x3 x4 x5 v1)
noncomputable def fX12_pickBest_77 (k9 : S2 → Int32 → Int32 → Int32 → Int32 → Int32 → Int32 → Option (Unit × S2)) (σ : S2) (x1 : Int32) (x2 : Int32) (x3 : Int32) (x6 : Int32) (x7 : Int32) : Option (Unit × S2) := fX12_pickBest_85 k9 σ x1 x2 x3 x6 x7 x6
noncomputable def fX12_pickBest_9  : Nat → S2 → Int32 → Int32 → Int32 → Int32 → Int32 → Int32 → Option (Unit × S2)
  | 0, _, _, _, _, _, _, _ => none
  | n + 1, σ, x1, x2, x3, x4, x5, x6 => if (σ.1 0 3) ≤ x6 then ck 12 (σ.1 0 53) (nm (ux_wI σ 35 (Int32.toNatClampNeg (σ.1 0 53)) x4) (fun σ2 => nm (ux_wI σ2 0 53 ((σ2.1 0 53) + 1)) (fun σ3 => some ((), σ3)))) else ck 11 x1 (nm (σ.1 9 (Int32.toNatClampNeg x1)) (fun v4 => bi (fX12_mixed σ x2 x6 v4) (fun r5 => ck 132 ((12 * x1) + x6) (nm (σ.1 15 (Int32.toNatClampNeg ((12 * x1) + x6))) (fun v7 => nm (r5 * v7) (fun v8 => bi (fX12_isIn σ x1 x6) (fun r9 => if r9 = 0 then fX12_pickBest_85 (fX12_pickBest_9 n) σ x1 x2 x3 x4 x5 x6 else if ((x3 >>> (x6 &&& 31)) &&& 1) = 0 then if x4 = (-1) then fX12_pickBest_77 (fX12_pickBest_9 n) σ x1 x2 x3 x6 v8 else if v8 ≤ x5 then fX12_pickBest_85 (fX12_pickBest_9 n) σ x1 x2 x3 x4 x5 x6 else fX12_pickBest_77 (fX12_pickBest_9 n) σ x1 x2 x3 x6 v8 else fX12_pickBest_85 (fX12_pickBest_9 n) σ x1 x2 x3 x4 x5 x6)))))))
noncomputable def fX12_pickBest_0  (σ : S2) (x1 : Int32) (x2 : Int32) (x3 : Int32) : Option (Unit × S2) := fX12_pickBest_9 FU σ x1 x2 x3 (-1) 0 0
noncomputable def fX12_pickBest (σ : S2) (a1 : Int32) (a2 : Int32) (a3 : Int32) : Option (Unit × S2) := fX12_pickBest_0 σ a1 a2 a3
noncomputable def fX12_pick_75 (k10 : S2 → Int32 → Int32 → Int32 → Int32 → Option (Unit × S2)) (σ : S2) (x1 : Int32) (x2 : Int32) (x3 : Int32) (x4 : Int32) : Option (Unit × S2) := ck 12 ((σ.1 0 53) - 1) (nm (σ.1 35 (Int32.toNatClampNeg ((σ.1 0 53) - 1))) (fun v1 => nm (x3 ||| (1 <<< (v1 &&& 31))) (fun v2 => k10 σ x1 x2 v2 x4)))
noncomputable def fX12_pick_73 (k10 : S2 → Int32 → Int32 → Int32 → Int32 → Option (Unit × S2)) (σ : S2) (x1 : Int32) (x2 : Int32) (x3 : Int32) (s0 : Int32) : Option (Unit × S2) := fX12_pick_75 k10 σ x1 x2 x3 s0
noncomputable def fX12_pick_10  : Nat → S2 → Int32 → Int32 → Int32 → Int32 → Option (Unit × S2)
  | 0, _, _, _, _, _ => none
  | n + 1, σ, x1, x2, x3, x4 => ck 11 x1 (nm (σ.1 8 (Int32.toNatClampNeg x1)) (fun v3 => if x3 = v3 then some ((), σ) else ck 11 x1 (nm (σ.1 12 (Int32.toNatClampNeg x1)) (fun v4 => if v4 = 1 then bs (fX12_pickBest σ x1 x2 x3) (fun r10 σ11 => fX12_pick_75 (fX12_pick_10 n) σ11 x1 x2 x3 x4) else bs (fX12_pickNext σ x1 x4 x3) (fun r5 σ6 => ck 11 x1 (nm (σ6.1 12 (Int32.toNatClampNeg x1)) (fun v8 => if v8 = 2 then dz (1000 : Int32) (fX12_pick_73 (fX12_pick_10 n) σ6 x1 x2 x3 ((x4 + 333) - (x4 + 333) / 1000 * 1000)) else fX12_pick_73 (fX12_pick_10 n) σ6 x1 x2 x3 x4)))))))
noncomputable def fX12_pick_0  (σ : S2) (x1 : Int32) (x2 : Int32) : Option (Unit × S2) := nm (ux_wI σ 0 53 0) (fun σ13 => fX12_pick_10 FU σ13 x1 x2 0 x2)
noncomputable def fX12_pick (σ : S2) (a1 : Int32) (a2 : Int32) : Option (Unit × S2) := fX12_pick_0 σ a1 a2
noncomputable def fX12_streetsOf_44  : Nat → S2 → Int32 → Int32 → Int32 → Option Int32
  | 0, _, _, _, _ => none
  | n + 1, σ, x2, x3, x4 => if 6 ≤ x4 then some (x3) else nm (x3 + ((x2 >>> (x4 &&& 31)) &&& 1)) (fun v1 => nm (x4 + 1) (fun v2 => fX12_streetsOf_44 n σ x2 v1 v2))
noncomputable def fX12_streetsOf_4  : Nat → S2 → Int32 → Int32 → Int32 → Option Int32
  | 0, _, _, _, _ => none
  | n + 1, σ, x1, x2, x3 => if (σ.1 0 55) ≤ x3 then fX12_streetsOf_44 FU σ x2 0 0 else ck 4 x3 (nm (σ.1 36 (Int32.toNatClampNeg x3)) (fun v3 => ck 132 ((12 * x1) + v3) (nm (σ.1 16 (Int32.toNatClampNeg ((12 * x1) + v3))) (fun v4 => nm (x2 ||| (1 <<< (v4 &&& 31))) (fun v5 => nm (x3 + 1) (fun v6 => fX12_streetsOf_4 n σ x1 v5 v6))))))
noncomputable def fX12_streetsOf_0  (σ : S2) (x1 : Int32) : Option Int32 := fX12_streetsOf_4 FU σ x1 0 0
noncomputable def fX12_streetsOf (σ : S2) (a1 : Int32) : Option Int32 := fX12_streetsOf_0 σ a1
noncomputable def fX12_isChosen_2  : Nat → S2 → Int32 → Int32 → Option Int32
  | 0, _, _, _ => none
  | n + 1, σ, x1, x2 => if (σ.1 0 55) ≤ x2 then some (0) else ck 4 x2 (nm (σ.1 36 (Int32.toNatClampNeg x2)) (fun v1 => if v1 = x1 then some (1) else nm (x2 + 1) (fun v2 => fX12_isChosen_2 n σ x1 v2)))
noncomputable def fX12_isChosen_0  (σ : S2) (x1 : Int32) : Option Int32 := fX12_isChosen_2 FU σ x1 0
noncomputable def fX12_isChosen (σ : S2) (a1 : Int32) : Option Int32 := fX12_isChosen_0 σ a1
noncomputable def fX12_choose_146 (k21 : S2 → Int32 → Int32 → Int32 → Option (Unit × S2)) (σ : S2) (x1 : Int32) (x3 : Int32) (x4 : Int32) : Option (Unit × S2) := nm (x4 + 1) (fun v1 => k21 σ x1 x3 v1)
noncomputable def fX12_choose_142 (k21 : S2 → Int32 → Int32 → Int32 → Option (Unit × S2)) (σ : S2) (x1 : Int32) (x3 : Int32) (x4 : Int32) (s0 : Int32) (s1 : Int32) : Option (Unit × S2) := nm (ux_wI σ 0 55 (s1 - s0)) (fun σ2 => fX12_choose_146 k21 σ2 x1 x3 x4)
noncomputable def fX12_choose_141 (k21 : S2 → Int32 → Int32 → Int32 → Option (Unit × S2)) (σ : S2) (x1 : Int32) (x3 : Int32) (x4 : Int32) (s0 : Int32) : Option (Unit × S2) := fX12_choose_142 k21 σ x1 x3 x4 0 s0
noncomputable def fX12_choose_85 (k21 : S2 → Int32 → Int32 → Int32 → Option (Unit × S2)) (σ : S2) (x1 : Int32) (x3 : Int32) (x4 : Int32) (x5 : Int32) (s0 : Int32) : Option (Unit × S2) := if s0 = 0 then fX12_choose_146 k21 σ x1 x3 x4 else ck 12 x4 (nm (σ.1 35 (Int32.toNatClampNeg x4)) (fun v3 => ck 4 (σ.1 0 55) (nm (ux_wI σ 36 (Int32.toNatClampNeg (σ.1 0 55)) v3) (fun σ4 => nm (ux_wI σ4 0 55 ((σ4.1 0 55) + 1)) (fun σ5 => if x3 = 0 then bi (fX12_streetsOf σ5 x1) (fun r6 => if r6 = x5 then fX12_choose_142 k21 σ5 x1 x3 x4 1 (σ5.1 0 55) else fX12_choose_141 k21 σ5 x1 x3 x4 (σ5.1 0 55)) else fX12_choose_141 k21 σ5 x1 x3 x4 (σ5.1 0 55))))))
noncomputable def fX12_choose_84 (k21 : S2 → Int32 → Int32 → Int32 → Option (Unit × S2)) (σ : S2) (x1 : Int32) (x3 : Int32) (x4 : Int32) (x5 : Int32) : Option (Unit × S2) := fX12_choose_85 k21 σ x1 x3 x4 x5 0
noncomputable def fX12_choose_80 (k21 : S2 → Int32 → Int32 → Int32 → Option (Unit × S2)) (σ : S2) (x1 : Int32) (x3 : Int32) (x4 : Int32) (x5 : Int32) : Option (Unit × S2) := fX12_choose_85 k21 σ x1 x3 x4 x5 1
noncomputable def fX12_choose_21 (k13 : S2 → Int32 → Int32 → Option (Unit × S2)) : Nat → S2 → Int32 → Int32 → Int32 → Option (Unit × S2)
  | 0, _, _, _, _ => none
  | n + 1, σ, x1, x3, x4 => if (σ.1 0 53) ≤ x4 then nm (x3 + 1) (fun v8 => k13 σ x1 v8) else bi (fX12_streetsOf σ x1) (fun r9 => ck 11 x1 (nm (σ.1 10 (Int32.toNatClampNeg x1)) (fun v11 => if v11 ≤ (σ.1 0 55) then fX12_choose_84 (fX12_choose_21 k13 n) σ x1 x3 x4 r9 else ck 12 x4 (nm (σ.1 35 (Int32.toNatClampNeg x4)) (fun v12 => bi (fX12_isChosen σ v12) (fun r13 => if r13 = 0 then if x3 = 1 then fX12_choose_80 (fX12_choose_21 k13 n) σ x1 x3 x4 r9 else ck 11 x1 (nm (σ.1 11 (Int32.toNatClampNeg x1)) (fun v15 => if v15 ≤ r9 then fX12_choose_84 (fX12_choose_21 k13 n) σ x1 x3 x4 r9 else fX12_choose_80 (fX12_choose_21 k13 n) σ x1 x3 x4 r9)) else fX12_choose_84 (fX12_choose_21 k13 n) σ x1 x3 x4 r9))))))
noncomputable def fX12_choose_13  : Nat → S2 → Int32 → Int32 → Option (Unit × S2)
  | 0, _, _, _ => none
  | n + 1, σ, x1, x3 => if 2 ≤ x3 then some ((), σ) else fX12_choose_21 (fX12_choose_13 n) FU σ x1 x3 0
noncomputable def fX12_choose_0  (σ : S2) (x1 : Int32) (x2 : Int32) : Option (Unit × S2) := bs (fX12_pick σ x1 x2) (fun r16 σ17 => nm (ux_wI σ17 0 55 0) (fun σ19 => fX12_choose_13 FU σ19 x1 0))
noncomputable def fX12_choose (σ : S2) (a1 : Int32) (a2 : Int32) : Option (Unit × S2) := fX12_choose_0 σ a1 a2
noncomputable def fX12_chooseName_0  (σ : S2) (x1 : Int32) (x2 : Int32) : Option (Unit × S2) := ck 11 x1 (nm (σ.1 9 (Int32.toNatClampNeg x1)) (fun v1 => bi (fX12_numberOf σ x2 v1) (fun r2 => bs (fX12_choose σ x1 r2) (fun r4 σ5 => some ((), σ5)))))
noncomputable def fX12_chooseName (σ : S2) (a1 : Int32) (a2 : Int32) : Option (Unit × S2) := fX12_chooseName_0 σ a1 a2
noncomputable def fX12_bits_4  : Nat → S2 → Int32 → Int32 → Option Int32
  | 0, _, _, _ => none
  | n + 1, σ, x1, x2 => if (σ.1 0 55) ≤ x2 then some (x1) else ck 4 x2 (nm (σ.1 36 (Int32.toNatClampNeg x2)) (fun v1 => nm (x1 ||| (1 <<< (v1 &&& 31))) (fun v2 => nm (x2 + 1) (fun v3 => fX12_bits_4 n σ v2 v3))))
noncomputable def fX12_bits_0  (σ : S2)  : Option Int32 := fX12_bits_4 FU σ 0 0
noncomputable def fX12_bits (σ : S2)  : Option Int32 := fX12_bits_0 σ
noncomputable def fX12_seat_19  (σ : S2)  : Option Int32 := some ((-1))
noncomputable def fX12_seat_0  (σ : S2) (x1 : Int32) (x2 : Int32) : Option Int32 := bi (fX12_isTable σ x1) (fun r1 => if r1 = 0 then fX12_seat_19 σ else bi (fX12_in σ x2 0 999) (fun r3 => if r3 = 0 then fX12_seat_19 σ else ck 11000 ((1000 * x1) + x2) (nm (σ.1 18 (Int32.toNatClampNeg ((1000 * x1) + x2))) (fun v5 => if v5 = (-1) then some ((-2)) else ck 11000 ((1000 * x1) + x2) (nm (σ.1 18 (Int32.toNatClampNeg ((1000 * x1) + x2))) (fun v6 => some (v6)))))))
noncomputable def fX12_seat (σ : S2) (a1 : Int32) (a2 : Int32) : Option Int32 := fX12_seat_0 σ a1 a2
noncomputable def fX12_picked_0  (σ : S2) (x1 : Int32) (x2 : Int32) (x3 : Int32) : Option (Int32 × S2) := bi (fX12_isTable σ x1) (fun r1 => if r1 = 0 then some ((-1), σ) else bi (fX12_in σ x2 0 999) (fun r3 => if r3 = 0 then some ((-1), σ) else bs (fX12_pick σ x1 x2) (fun r5 σ6 => bi (fX12_in σ6 x3 0 ((σ6.1 0 53) - 1)) (fun r8 => if r8 = 0 then some ((-1), σ6) else ck 12 x3 (nm (σ6.1 35 (Int32.toNatClampNeg x3)) (fun v10 => some (v10, σ6)))))))
noncomputable def fX12_picked (σ : S2) (a1 : Int32) (a2 : Int32) (a3 : Int32) : Option (Int32 × S2) := fX12_picked_0 σ a1 a2 a3
noncomputable def fX12_keeperOf_0  (σ : S2) (x1 : Int32) (x2 : Int32) (x3 : Int32) : Option (Int32 × S2) := bi (fX12_isTable σ x1) (fun r1 => if r1 = 0 then some ((-1), σ) else bi (fX12_isName σ x2) (fun r3 => if r3 = 0 then some ((-1), σ) else bs (fX12_chooseName σ x1 x2) (fun r5 σ6 => if x3 = (-1) then some (σ6.1 0 55, σ6) else bi (fX12_in σ6 x3 0 ((σ6.1 0 55) - 1)) (fun r8 => if r8 = 0 then some ((-1), σ6) else ck 4 x3 (nm (σ6.1 36 (Int32.toNatClampNeg x3)) (fun v10 => some (v10, σ6)))))))
noncomputable def fX12_keeperOf (σ : S2) (a1 : Int32) (a2 : Int32) (a3 : Int32) : Option (Int32 × S2) := fX12_keeperOf_0 σ a1 a2 a3
noncomputable def fX12_tooFew_48 (k14 : S2 → Int32 → Int32 → Int32 → Option (Int32 × S2)) (σ : S2) (x1 : Int32) (x3 : Int32) (s0 : Int32) (s1 : Int32) : Option (Int32 × S2) := nm (s1 + s0) (fun v1 => nm (x3 + 1) (fun v2 => k14 σ x1 v1 v2))
noncomputable def fX12_tooFew_14  : Nat → S2 → Int32 → Int32 → Int32 → Option (Int32 × S2)
  | 0, _, _, _, _ => none
  | n + 1, σ, x1, x2, x3 => if (σ.1 0 0) ≤ x3 then some (x2, σ) else bs (fX12_chooseName σ x1 x3) (fun r3 σ4 => bi (fX12_streetsOf σ4 x1) (fun r6 => ck 11 x1 (nm (σ4.1 11 (Int32.toNatClampNeg x1)) (fun v8 => if v8 ≤ r6 then fX12_tooFew_48 (fX12_tooFew_14 n) σ4 x1 x3 0 x2 else fX12_tooFew_48 (fX12_tooFew_14 n) σ4 x1 x3 1 x2))))
noncomputable def fX12_tooFew_0  (σ : S2) (x1 : Int32) : Option (Int32 × S2) := bi (fX12_isTable σ x1) (fun r9 => if r9 = 0 then some ((-1), σ) else fX12_tooFew_14 FU σ x1 0 0)
noncomputable def fX12_tooFew (σ : S2) (a1 : Int32) : Option (Int32 × S2) := fX12_tooFew_0 σ a1
noncomputable def fX12_shareOf_47 (k5 : S2 → Int32 → Int32 → Int32 → Int32 → Option (Int32 × S2)) (σ : S2) (x1 : Int32) (x2 : Int32) (x4 : Int32) (s0 : Int32) (s1 : Int32) : Option (Int32 × S2) := nm (s1 + s0) (fun v1 => nm (x4 + 1) (fun v2 => k5 σ x1 x2 v1 v2))
noncomputable def fX12_shareOf_5  : Nat → S2 → Int32 → Int32 → Int32 → Int32 → Option (Int32 × S2)
  | 0, _, _, _, _, _ => none
  | n + 1, σ, x1, x2, x3, x4 => if (σ.1 0 0) ≤ x4 then some (x3, σ) else ck 11 x1 (nm (σ.1 9 (Int32.toNatClampNeg x1)) (fun v3 => bi (fX12_numberOf σ x4 v3) (fun r4 => bs (fX12_pick σ x1 r4) (fun r6 σ7 => ck 12 0 (nm (σ7.1 35 (Int32.toNatClampNeg 0)) (fun v9 => if v9 = x2 then fX12_shareOf_47 (fX12_shareOf_5 n) σ7 x1 x2 x4 1 x3 else fX12_shareOf_47 (fX12_shareOf_5 n) σ7 x1 x2 x4 0 x3))))))
noncomputable def fX12_shareOf_0  (σ : S2) (x1 : Int32) (x2 : Int32) : Option (Int32 × S2) := fX12_shareOf_5 FU σ x1 x2 0 0
noncomputable def fX12_shareOf (σ : S2) (a1 : Int32) (a2 : Int32) : Option (Int32 × S2) := fX12_shareOf_0 σ a1 a2
noncomputable def fX12_findOdds_23  : Nat → S2 → Int32 → Int32 → Option (Unit × S2)
  | 0, _, _, _ => none
  | n + 1, σ, x1, x2 => if 1000 ≤ x2 then some ((), σ) else bs (fX12_pick σ x1 x2) (fun r1 σ2 => ck 12 0 (nm (σ2.1 35 (Int32.toNatClampNeg 0)) (fun v4 => ck 12 v4 (nm (σ2.1 37 (Int32.toNatClampNeg v4)) (fun v5 => ck 12 v4 (nm (ux_wI σ2 37 (Int32.toNatClampNeg v4) (v5 + 1)) (fun σ6 => nm (x2 + 1) (fun v7 => fX12_findOdds_23 n σ6 x1 v7))))))))
noncomputable def fX12_findOdds_2  : Nat → S2 → Int32 → Int32 → Option (Unit × S2)
  | 0, _, _, _ => none
  | n + 1, σ, x1, x2 => if 12 ≤ x2 then fX12_findOdds_23 FU σ x1 0 else ck 12 x2 (nm (ux_wI σ 37 (Int32.toNatClampNeg x2) 0) (fun σ8 => nm (x2 + 1) (fun v9 => fX12_findOdds_2 n σ8 x1 v9)))
noncomputable def fX12_findOdds_0  (σ : S2) (x1 : Int32) : Option (Unit × S2) := fX12_findOdds_2 FU σ x1 0
noncomputable def fX12_findOdds (σ : S2) (a1 : Int32) : Option (Unit × S2) := fX12_findOdds_0 σ a1
noncomputable def fX12_share_0  (σ : S2) (x1 : Int32) (x2 : Int32) (x3 : Int32) : Option (Int32 × S2) := bi (fX12_isTable σ x1) (fun r1 => if r1 = 0 then some ((-1), σ) else bi (fX12_isKeeper σ x2) (fun r3 => if r3 = 0 then some ((-1), σ) else bi (fX12_in σ x3 0 1) (fun r5 => if r5 = 0 then some ((-1), σ) else if x3 = 0 then bs (fX12_shareOf σ x1 x2) (fun r11 σ12 => some (r11, σ12)) else bs (fX12_findOdds σ x1) (fun r7 σ8 => ck 12 x2 (nm (σ8.1 37 (Int32.toNatClampNeg x2)) (fun v10 => some (v10, σ8)))))))
noncomputable def fX12_share (σ : S2) (a1 : Int32) (a2 : Int32) (a3 : Int32) : Option (Int32 × S2) := fX12_share_0 σ a1 a2 a3
noncomputable def fX12_even_79 (k14 : S2 → Int32 → Int32 → Int32 → Int32 → Option (Int32 × S2)) (σ : S2) (x1 : Int32) (x2 : Int32) (x3 : Int32) (x4 : Int32) : Option (Int32 × S2) := nm (x4 + 1) (fun v1 => k14 σ x1 x2 x3 v1)
noncomputable def fX12_even_78 (k14 : S2 → Int32 → Int32 → Int32 → Int32 → Option (Int32 × S2)) (σ : S2) (x1 : Int32) (x2 : Int32) (x4 : Int32) (s0 : Int32) : Option (Int32 × S2) := fX12_even_79 k14 σ x1 x2 s0 x4
noncomputable def fX12_even_55 (k14 : S2 → Int32 → Int32 → Int32 → Int32 → Option (Int32 × S2)) (σ : S2) (x1 : Int32) (x3 : Int32) (x4 : Int32) (s0 : Int32) : Option (Int32 × S2) := ck 12 x4 (nm (σ.1 37 (Int32.toNatClampNeg x4)) (fun v2 => if v2 ≤ x3 then fX12_even_78 k14 σ x1 s0 x4 x3 else ck 12 x4 (nm (σ.1 37 (Int32.toNatClampNeg x4)) (fun v3 => fX12_even_78 k14 σ x1 s0 x4 v3))))
noncomputable def fX12_even_14  : Nat → S2 → Int32 → Int32 → Int32 → Int32 → Option (Int32 × S2)
  | 0, _, _, _, _, _ => none
  | n + 1, σ, x1, x2, x3, x4 => if (σ.1 0 3) ≤ x4 then some (x3 - x2, σ) else bi (fX12_isIn σ x1 x4) (fun r4 => if r4 = 0 then fX12_even_79 (fX12_even_14 n) σ x1 x2 x3 x4 else ck 12 x4 (nm (σ.1 37 (Int32.toNatClampNeg x4)) (fun v6 => if x2 ≤ v6 then fX12_even_55 (fX12_even_14 n) σ x1 x3 x4 x2 else ck 12 x4 (nm (σ.1 37 (Int32.toNatClampNeg x4)) (fun v7 => fX12_even_55 (fX12_even_14 n) σ x1 x3 x4 v7)))))
noncomputable def fX12_even_0  (σ : S2) (x1 : Int32) : Option (Int32 × S2) := bs (fX12_findOdds σ x1) (fun r8 σ9 => fX12_even_14 FU σ9 x1 1000 0 0)
noncomputable def fX12_even (σ : S2) (a1 : Int32) : Option (Int32 × S2) := fX12_even_0 σ a1
noncomputable def fX12_ofTable_0  (σ : S2) (x1 : Int32) (x2 : Int32) : Option (Int32 × S2) := bi (fX12_isTable σ x1) (fun r1 => if r1 = 0 then some ((-1), σ) else if x2 = 0 then ck 11 x1 (nm (σ.1 8 (Int32.toNatClampNeg x1)) (fun v4 => some (v4, σ))) else if x2 = 1 then ck 11 x1 (nm (σ.1 17 (Int32.toNatClampNeg x1)) (fun v6 => some (v6, σ))) else if x2 = 2 then ck 11 x1 (nm (σ.1 10 (Int32.toNatClampNeg x1)) (fun v8 => some (v8, σ))) else if x2 = 3 then ck 11 x1 (nm (σ.1 11 (Int32.toNatClampNeg x1)) (fun v10 => some (v10, σ))) else if x2 = 4 then ck 11 x1 (nm (σ.1 12 (Int32.toNatClampNeg x1)) (fun v12 => some (v12, σ))) else if x2 = 5 then bs (fX12_even σ x1) (fun r14 σ15 => some (r14, σ15)) else some ((-1), σ))
noncomputable def fX12_ofTable (σ : S2) (a1 : Int32) (a2 : Int32) : Option (Int32 × S2) := fX12_ofTable_0 σ a1 a2
noncomputable def fX12_ones_4  : Nat → S2 → Int32 → Int32 → Int32 → Option Int32
  | 0, _, _, _, _ => none
  | n + 1, σ, x0, x1, x2 => if 12 ≤ x2 then some (x1) else nm (x1 + ((x0 >>> (x2 &&& 31)) &&& 1)) (fun v1 => nm (x2 + 1) (fun v2 => fX12_ones_4 n σ x0 v1 v2))
noncomputable def fX12_ones_0  (σ : S2) (x0 : Int32) : Option Int32 := fX12_ones_4 FU σ x0 0 0
noncomputable def fX12_ones (σ : S2) (a0 : Int32) : Option Int32 := fX12_ones_0 σ a0
noncomputable def fX12_moves_191 (k117 : S2 → Int32 → Int32 → Int32 → Int32 → Int32 → Int32 → Int32 → Option (Int32 × S2)) (σ : S2) (x1 : Int32) (x2 : Int32) (x3 : Int32) (x4 : Int32) (x5 : Int32) (x7 : Int32) (s0 : Int32) (s1 : Int32) : Option (Int32 × S2) := nm (s1 + s0) (fun v1 => nm (x7 + 1) (fun v2 => k117 σ x1 x2 x3 x4 x5 v1 v2))
noncomputable def fX12_moves_117  : Nat → S2 → Int32 → Int32 → Int32 → Int32 → Int32 → Int32 → Int32 → Option (Int32 × S2)
  | 0, _, _, _, _, _, _, _, _ => none
  | n + 1, σ, x1, x2, x3, x4, x5, x6, x7 => if (σ.1 0 0) ≤ x7 then if x3 = 0 then some (x5, σ) else some (x6, σ) else bs (fX12_chooseName σ x1 x7) (fun r3 σ4 => bi (fX12_bits σ4) (fun r6 => bs (fX12_chooseName σ4 x2 x7) (fun r8 σ9 => bi (fX12_bits σ9) (fun r11 => nm (r11 &&& (r6 ^^^ (-1))) (fun v13 => bi (fX12_ones σ9 v13) (fun r14 => nm (x5 + r14) (fun v16 => if (r6 &&& (x4 ^^^ (-1))) = 0 then bi (fX12_ones σ9 (v13 &&& x4)) (fun r17 => fX12_moves_191 (fX12_moves_117 n) σ9 x1 x2 x3 x4 v16 x7 r17 x6) else fX12_moves_191 (fX12_moves_117 n) σ9 x1 x2 x3 x4 v16 x7 0 x6)))))))
noncomputable def fX12_moves_99 (k33 : S2 → Int32 → Int32 → Int32 → Int32 → Int32 → Option (Int32 × S2)) (σ : S2) (x1 : Int32) (x2 : Int32) (x3 : Int32) (x5 : Int32) (s0 : Int32) (s1 : Int32) : Option (Int32 × S2) := nm (s1 ||| s0) (fun v19 => nm (x5 + 1) (fun v20 => k33 σ x1 x2 x3 v19 v20))
noncomputable def fX12_moves_98 (k33 : S2 → Int32 → Int32 → Int32 → Int32 → Int32 → Option (Int32 × S2)) (σ : S2) (x1 : Int32) (x2 : Int32) (x3 : Int32) (x5 : Int32) (s0 : Int32) : Option (Int32 × S2) := fX12_moves_99 k33 σ x1 x2 x3 x5 0 s0
noncomputable def fX12_moves_33  : Nat → S2 → Int32 → Int32 → Int32 → Int32 → Int32 → Option (Int32 × S2)
  | 0, _, _, _, _, _, _ => none
  | n + 1, σ, x1, x2, x3, x4, x5 => if (σ.1 0 3) ≤ x5 then fX12_moves_117 FU σ x1 x2 x3 x4 0 0 0 else bi (fX12_isIn σ x1 x5) (fun r21 => if r21 = 0 then fX12_moves_98 (fX12_moves_33 n) σ x1 x2 x3 x5 x4 else bi (fX12_isIn σ x2 x5) (fun r23 => if r23 = 0 then fX12_moves_98 (fX12_moves_33 n) σ x1 x2 x3 x5 x4 else ck 132 ((12 * x1) + x5) (nm (σ.1 15 (Int32.toNatClampNeg ((12 * x1) + x5))) (fun v25 => ck 132 ((12 * x2) + x5) (nm (σ.1 15 (Int32.toNatClampNeg ((12 * x2) + x5))) (fun v26 => if v25 = v26 then fX12_moves_99 (fX12_moves_33 n) σ x1 x2 x3 x5 (1 <<< (x5 &&& 31)) x4 else fX12_moves_98 (fX12_moves_33 n) σ x1 x2 x3 x5 x4))))))
noncomputable def fX12_moves_0  (σ : S2) (x1 : Int32) (x2 : Int32) (x3 : Int32) : Option (Int32 × S2) := bi (fX12_isTable σ x1) (fun r27 => if r27 = 0 then some ((-1), σ) else bi (fX12_isTable σ x2) (fun r29 => if r29 = 0 then some ((-1), σ) else bi (fX12_in σ x3 0 1) (fun r31 => if r31 = 0 then some ((-1), σ) else fX12_moves_33 FU σ x1 x2 x3 0 0)))
noncomputable def fX12_moves (σ : S2) (a1 : Int32) (a2 : Int32) (a3 : Int32) : Option (Int32 × S2) := fX12_moves_0 σ a1 a2 a3
noncomputable def fX12_knows_0  (σ : S2) (x1 : Int32) (x2 : Int32) : Option (Int32 × S2) := bi (fX12_isKeeper σ x1) (fun r1 => if r1 = 0 then some ((-2000000000), σ) else bi (fX12_in σ x2 (-1) ((σ.1 0 9) - 1)) (fun r3 => if r3 = 0 then some ((-2000000000), σ) else ck 12 x1 (nm (σ.1 6 (Int32.toNatClampNeg x1)) (fun v5 => ck 12 x1 (nm (ux_wI σ 6 (Int32.toNatClampNeg x1) x2) (fun σ6 => some (v5, σ6)))))))
noncomputable def fX12_knows (σ : S2) (a1 : Int32) (a2 : Int32) : Option (Int32 × S2) := fX12_knows_0 σ a1 a2
noncomputable def fX12_isAwake_0  (σ : S2) (x1 : Int32) : Option Int32 := ck 12 x1 (nm (σ.1 5 (Int32.toNatClampNeg x1)) (fun v1 => if v1 = 4 then some (0) else ck 12 x1 (nm (σ.1 7 (Int32.toNatClampNeg x1)) (fun v2 => if v2 = 0 then some (1) else some (0)))))
noncomputable def fX12_isAwake (σ : S2) (a1 : Int32) : Option Int32 := fX12_isAwake_0 σ a1
noncomputable def fX12_hasRoom_36  (σ : S2)  : Option Int32 := some (1)
noncomputable def fX12_hasRoom_0  (σ : S2) (x1 : Int32) (x2 : Int32) : Option Int32 := ck 12 x1 (nm (σ.1 5 (Int32.toNatClampNeg x1)) (fun v1 => if v1 = 6 then ck 480 ((40 * x1) + x2) (nm (σ.1 20 (Int32.toNatClampNeg ((40 * x1) + x2))) (fun v2 => if 0 < v2 then fX12_hasRoom_36 σ else bi (fX12_many σ x1 1) (fun r3 => if 8 ≤ r3 then some (0) else fX12_hasRoom_36 σ))) else fX12_hasRoom_36 σ))
noncomputable def fX12_hasRoom (σ : S2) (a1 : Int32) (a2 : Int32) : Option Int32 := fX12_hasRoom_0 σ a1 a2
noncomputable def fX12_keeps_90 (k3 : S2 → Int32 → Int32 → Int32 → Int32 → Int32 → Option (Int32 × S2)) (σ : S2) (x1 : Int32) (x2 : Int32) (x3 : Int32) (x4 : Int32) (x5 : Int32) : Option (Int32 × S2) := nm (x5 + 1) (fun v1 => k3 σ x1 x2 x3 x4 v1)
noncomputable def fX12_keeps_71  (σ : S2) (x2 : Int32) (x4 : Int32) (x7 : Int32) : Option (Int32 × S2) := ck 480 x7 (nm (ux_wI σ 21 (Int32.toNatClampNeg x7) x4) (fun σ2 => ck 480 x7 (nm (ux_wI σ2 22 (Int32.toNatClampNeg x7) x2) (fun σ3 => some (1, σ3)))))
noncomputable def fX12_keeps_3  : Nat → S2 → Int32 → Int32 → Int32 → Int32 → Int32 → Option (Int32 × S2)
  | 0, _, _, _, _, _, _ => none
  | n + 1, σ, x1, x2, x3, x4, x5 => if (σ.1 0 53) ≤ x5 then some (0, σ) else ck 12 x5 (nm (σ.1 35 (Int32.toNatClampNeg x5)) (fun v4 => nm ((40 * v4) + x1) (fun v5 => if ((x3 >>> (v4 &&& 31)) &&& 1) = 0 then bi (fX12_isAwake σ v4) (fun r6 => if r6 = 0 then fX12_keeps_90 (fX12_keeps_3 n) σ x1 x2 x3 x4 x5 else ck 480 v5 (nm (σ.1 22 (Int32.toNatClampNeg v5)) (fun v8 => if v8 = (-2) then fX12_keeps_71 σ x2 x4 v5 else ck 480 v5 (nm (σ.1 22 (Int32.toNatClampNeg v5)) (fun v9 => if v9 = x2 then fX12_keeps_71 σ x2 x4 v5 else fX12_keeps_90 (fX12_keeps_3 n) σ x1 x2 x3 x4 x5))))) else fX12_keeps_90 (fX12_keeps_3 n) σ x1 x2 x3 x4 x5)))
noncomputable def fX12_keeps_0  (σ : S2) (x1 : Int32) (x2 : Int32) (x3 : Int32) (x4 : Int32) : Option (Int32 × S2) := fX12_keeps_3 FU σ x1 x2 x3 x4 0
noncomputable def fX12_keeps (σ : S2) (a1 : Int32) (a2 : Int32) (a3 : Int32) (a4 : Int32) : Option (Int32 × S2) := fX12_keeps_0 σ a1 a2 a3 a4
noncomputable def fX12_write_175 (k80 : S2 → Int32 → Int32 → Int32 → Int32 → Option (Int32 × S2)) (σ : S2) (x2 : Int32) (x3 : Int32) (x4 : Int32) (x5 : Int32) : Option (Int32 × S2) := nm (x5 + 1) (fun v1 => k80 σ x2 x3 x4 v1)
noncomputable def fX12_write_80  : Nat → S2 → Int32 → Int32 → Int32 → Int32 → Option (Int32 × S2)
  | 0, _, _, _, _, _ => none
  | n + 1, σ, x2, x3, x4, x5 => if (σ.1 0 55) ≤ x5 then some (x4, σ) else ck 4 x5 (nm (σ.1 36 (Int32.toNatClampNeg x5)) (fun v2 => ck 12 v2 (nm (σ.1 7 (Int32.toNatClampNeg v2)) (fun v3 => if v3 = 0 then ck 12 v2 (nm (σ.1 5 (Int32.toNatClampNeg v2)) (fun v4 => if v4 = 4 then ck 40 x2 (nm (σ.1 25 (Int32.toNatClampNeg x2)) (fun v10 => bs (fX12_keeps σ x2 v2 x3 v10) (fun r11 σ12 => nm (x4 + r11) (fun v14 => fX12_write_175 (fX12_write_80 n) σ12 x2 x3 v14 x5)))) else bi (fX12_hasRoom σ v2 x2) (fun r5 => if r5 = 0 then fX12_write_175 (fX12_write_80 n) σ x2 x3 x4 x5 else ck 40 x2 (nm (σ.1 25 (Int32.toNatClampNeg x2)) (fun v7 => ck 480 ((40 * v2) + x2) (nm (ux_wI σ 20 (Int32.toNatClampNeg ((40 * v2) + x2)) v7) (fun σ8 => nm (x4 + 1) (fun v9 => fX12_write_175 (fX12_write_80 n) σ8 x2 x3 v9 x5)))))))) else fX12_write_175 (fX12_write_80 n) σ x2 x3 x4 x5))))
noncomputable def fX12_write_0  (σ : S2) (x1 : Int32) (x2 : Int32) : Option (Int32 × S2) := bi (fX12_isKeeper σ x1) (fun r15 => if r15 = 0 then some ((-1), σ) else bi (fX12_isName σ x2) (fun r17 => if r17 = 0 then some ((-1), σ) else ck 12 x1 (nm (σ.1 6 (Int32.toNatClampNeg x1)) (fun v19 => if v19 < 0 then some ((-5), σ) else bi (fX12_isAwake σ x1) (fun r20 => if r20 = 0 then some ((-5), σ) else ck 40 x2 (nm (σ.1 25 (Int32.toNatClampNeg x2)) (fun v22 => ck 40 x2 (nm (ux_wI σ 25 (Int32.toNatClampNeg x2) (v22 + 1)) (fun σ23 => nm (ux_wI σ23 0 29 ((σ23.1 0 29) + 1)) (fun σ24 => ck 12 x1 (nm (σ24.1 6 (Int32.toNatClampNeg x1)) (fun v25 => bs (fX12_chooseName σ24 v25 x2) (fun r26 σ27 => bi (fX12_bits σ27) (fun r29 => fX12_write_80 FU σ27 x2 r29 0 0))))))))))))))
noncomputable def fX12_write (σ : S2) (a1 : Int32) (a2 : Int32) : Option (Int32 × S2) := fX12_write_0 σ a1 a2
noncomputable def fX12_read_112 (k54 : S2 → Int32 → Int32 → Int32 → Option (Int32 × S2)) (σ : S2) (x2 : Int32) (x4 : Int32) (s0 : Int32) : Option (Int32 × S2) := nm (x4 + 1) (fun v1 => k54 σ x2 s0 v1)
noncomputable def fX12_read_98 (k54 : S2 → Int32 → Int32 → Int32 → Option (Int32 × S2)) (σ : S2) (x2 : Int32) (x3 : Int32) (x4 : Int32) (s0 : Int32) : Option (Int32 × S2) := if s0 ≤ x3 then fX12_read_112 k54 σ x2 x4 x3 else fX12_read_112 k54 σ x2 x4 s0
noncomputable def fX12_read_54  : Nat → S2 → Int32 → Int32 → Int32 → Option (Int32 × S2)
  | 0, _, _, _, _ => none
  | n + 1, σ, x2, x3, x4 => if (σ.1 0 55) ≤ x4 then some (x3, σ) else ck 4 x4 (nm (σ.1 36 (Int32.toNatClampNeg x4)) (fun v2 => bi (fX12_isAwake σ v2) (fun r3 => if r3 = 0 then fX12_read_98 (fX12_read_54 n) σ x2 x3 x4 0 else ck 4 x4 (nm (σ.1 36 (Int32.toNatClampNeg x4)) (fun v5 => ck 480 ((40 * v5) + x2) (nm (σ.1 20 (Int32.toNatClampNeg ((40 * v5) + x2))) (fun v6 => fX12_read_98 (fX12_read_54 n) σ x2 x3 x4 v6)))))))
noncomputable def fX12_read_0  (σ : S2) (x1 : Int32) (x2 : Int32) : Option (Int32 × S2) := bi (fX12_isKeeper σ x1) (fun r7 => if r7 = 0 then some ((-1), σ) else bi (fX12_isName σ x2) (fun r9 => if r9 = 0 then some ((-1), σ) else ck 12 x1 (nm (σ.1 6 (Int32.toNatClampNeg x1)) (fun v11 => if v11 < 0 then some ((-5), σ) else bi (fX12_isAwake σ x1) (fun r12 => if r12 = 0 then some ((-5), σ) else ck 12 x1 (nm (σ.1 6 (Int32.toNatClampNeg x1)) (fun v14 => bs (fX12_chooseName σ v14 x2) (fun r15 σ16 => fX12_read_54 FU σ16 x2 0 0))))))))
noncomputable def fX12_read (σ : S2) (a1 : Int32) (a2 : Int32) : Option (Int32 × S2) := fX12_read_0 σ a1 a2
noncomputable def fX12_onShelf_0  (σ : S2) (x1 : Int32) (x2 : Int32) (x3 : Int32) : Option Int32 := bi (fX12_isKeeper σ x1) (fun r1 => if r1 = 0 then some ((-1)) else bi (fX12_isName σ x2) (fun r3 => if r3 = 0 then some ((-1)) else nm ((40 * x1) + x2) (fun v5 => if x3 = 0 then ck 480 v5 (nm (σ.1 20 (Int32.toNatClampNeg v5)) (fun v9 => some (v9))) else if x3 = 1 then ck 480 v5 (nm (σ.1 21 (Int32.toNatClampNeg v5)) (fun v8 => some (v8))) else if x3 = 2 then ck 480 v5 (nm (σ.1 22 (Int32.toNatClampNeg v5)) (fun v7 => some (v7))) else if x3 = 3 then ck 480 v5 (nm (σ.1 23 (Int32.toNatClampNeg v5)) (fun v6 => some (v6))) else some ((-1)))))
noncomputable def fX12_onShelf (σ : S2) (a1 : Int32) (a2 : Int32) (a3 : Int32) : Option Int32 := fX12_onShelf_0 σ a1 a2 a3
noncomputable def fX12_fall_53  : Nat → S2 → Int32 → Int32 → Int32 → Int32 → Option (Int32 × S2)
  | 0, _, _, _, _, _ => none
  | n + 1, σ, x1, x2, x3, x4 => if 40 ≤ x4 then some (x3, σ) else if x2 = 1 then ck 480 ((40 * x1) + x4) (nm (ux_wI σ 20 (Int32.toNatClampNeg ((40 * x1) + x4)) 0) (fun σ1 => ck 480 ((40 * x1) + x4) (nm (ux_wI σ1 21 (Int32.toNatClampNeg ((40 * x1) + x4)) 0) (fun σ2 => ck 480 ((40 * x1) + x4) (nm (ux_wI σ2 22 (Int32.toNatClampNeg ((40 * x1) + x4)) (-2)) (fun σ3 => nm (x4 + 1) (fun v4 => fX12_fall_53 n σ3 x1 x2 x3 v4))))))) else some (x3, σ)
noncomputable def fX12_fall_49  (σ : S2) (x1 : Int32) (x2 : Int32) (x3 : Int32) (s0 : Int32) (s1 : Int32) : Option (Int32 × S2) := ck 12 s1 (nm (ux_wI σ 7 (Int32.toNatClampNeg s1) (vp_nar .boolean s0)) (fun σ5 => fX12_fall_53 FU σ5 x1 x2 x3 0))
noncomputable def fX12_fall_33  (σ : S2) (x1 : Int32) (x2 : Int32) (s0 : Int32) : Option (Int32 × S2) := if x2 = 1 then fX12_fall_49 σ x1 x2 s0 1 x1 else fX12_fall_49 σ x1 x2 s0 0 x1
noncomputable def fX12_fall_0  (σ : S2) (x1 : Int32) (x2 : Int32) : Option (Int32 × S2) := bi (fX12_isKeeper σ x1) (fun r6 => if r6 = 0 then some ((-1), σ) else bi (fX12_in σ x2 0 1) (fun r8 => if r8 = 0 then some ((-1), σ) else ck 12 x1 (nm (σ.1 7 (Int32.toNatClampNeg x1)) (fun v10 => if v10 = 0 then fX12_fall_33 σ x1 x2 0 else fX12_fall_33 σ x1 x2 1))))
noncomputable def fX12_fall (σ : S2) (a1 : Int32) (a2 : Int32) : Option (Int32 × S2) := fX12_fall_0 σ a1 a2
noncomputable def fX12_half_68  (σ : S2) (x4 : Int32) : Option (Int32 × S2) := ck 480 x4 (nm (ux_wI σ 23 (Int32.toNatClampNeg x4) 0) (fun σ1 => some (0, σ1)))
noncomputable def fX12_half_194  (σ : S2) (x4 : Int32) (s0 : Int32) (s1 : Int32) : Option (Int32 × S2) := ck 480 s1 (nm (ux_wI σ 20 (Int32.toNatClampNeg s1) s0) (fun σ2 => ck 480 x4 (nm (ux_wI σ2 20 (Int32.toNatClampNeg x4) 0) (fun σ3 => ck 480 x4 (nm (ux_wI σ3 23 (Int32.toNatClampNeg x4) 0) (fun σ4 => some (3, σ4)))))))
noncomputable def fX12_half_118  (σ : S2) (x1 : Int32) (x3 : Int32) (x4 : Int32) (s0 : Int32) (s1 : Int32) : Option (Int32 × S2) := ck 480 s1 (nm (ux_wI σ 23 (Int32.toNatClampNeg s1) s0) (fun σ5 => ck 480 x4 (nm (ux_wI σ5 24 (Int32.toNatClampNeg x4) x3) (fun σ6 => ck 480 x4 (nm (σ6.1 23 (Int32.toNatClampNeg x4)) (fun v7 => if 3 ≤ v7 then nm ((40 * x3) + x1) (fun v8 => ck 480 x4 (nm (σ6.1 20 (Int32.toNatClampNeg x4)) (fun v9 => ck 480 v8 (nm (σ6.1 20 (Int32.toNatClampNeg v8)) (fun v10 => if v9 ≤ v10 then ck 480 v8 (nm (σ6.1 20 (Int32.toNatClampNeg v8)) (fun v11 => fX12_half_194 σ6 x4 v11 v8)) else ck 480 x4 (nm (σ6.1 20 (Int32.toNatClampNeg x4)) (fun v12 => fX12_half_194 σ6 x4 v12 v8))))))) else ck 480 x4 (nm (σ6.1 23 (Int32.toNatClampNeg x4)) (fun v13 => some (v13, σ6)))))))))
noncomputable def fX12_half_117  (σ : S2) (x1 : Int32) (x3 : Int32) (x4 : Int32) (s0 : Int32) : Option (Int32 × S2) := fX12_half_118 σ x1 x3 x4 1 s0
noncomputable def fX12_half_0  (σ : S2) (x1 : Int32) (x2 : Int32) (x3 : Int32) : Option (Int32 × S2) := bi (fX12_isName σ x1) (fun r14 => if r14 = 0 then some ((-1), σ) else bi (fX12_isKeeper σ x2) (fun r16 => if r16 = 0 then some ((-1), σ) else bi (fX12_isKeeper σ x3) (fun r18 => if r18 = 0 then some ((-1), σ) else if x2 = x3 then some ((-1), σ) else nm ((40 * x2) + x1) (fun v20 => ck 480 v20 (nm (σ.1 20 (Int32.toNatClampNeg v20)) (fun v21 => if v21 = 0 then some ((-2), σ) else bi (fX12_isAwake σ x2) (fun r22 => if r22 = 0 then fX12_half_68 σ v20 else bi (fX12_isAwake σ x3) (fun r24 => if r24 = 0 then fX12_half_68 σ v20 else ck 480 v20 (nm (σ.1 23 (Int32.toNatClampNeg v20)) (fun v26 => if v26 ≤ 0 then fX12_half_117 σ x1 x3 v20 v20 else ck 480 v20 (nm (σ.1 24 (Int32.toNatClampNeg v20)) (fun v27 => if v27 = x3 then ck 480 v20 (nm (σ.1 23 (Int32.toNatClampNeg v20)) (fun v28 => fX12_half_118 σ x1 x3 v20 (v28 + 1) v20)) else fX12_half_117 σ x1 x3 v20 v20))))))))))))
noncomputable def fX12_half (σ : S2) (a1 : Int32) (a2 : Int32) (a3 : Int32) : Option (Int32 × S2) := fX12_half_0 σ a1 a2 a3
noncomputable def fX12_mend_174 (k98 : S2 → Int32 → Int32 → Int32 → Int32 → Int32 → Option (Int32 × S2)) (σ : S2) (x1 : Int32) (x2 : Int32) (x3 : Int32) (x4 : Int32) (x5 : Int32) : Option (Int32 × S2) := nm (x5 + 1) (fun v1 => k98 σ x1 x2 x3 x4 v1)
noncomputable def fX12_mend_98 (k14 : S2 → Int32 → Int32 → Int32 → Option (Int32 × S2)) : Nat → S2 → Int32 → Int32 → Int32 → Int32 → Int32 → Option (Int32 × S2)
  | 0, _, _, _, _, _, _ => none
  | n + 1, σ, x1, x2, x3, x4, x5 => if (σ.1 0 55) ≤ x5 then nm (x3 + 1) (fun v2 => k14 σ x1 x2 v2) else ck 4 x5 (nm (σ.1 36 (Int32.toNatClampNeg x5)) (fun v3 => nm ((40 * v3) + x3) (fun v4 => ck 4 x5 (nm (σ.1 36 (Int32.toNatClampNeg x5)) (fun v5 => bi (fX12_isAwake σ v5) (fun r6 => if r6 = 0 then fX12_mend_174 (fX12_mend_98 k14 n) σ x1 x2 x3 x4 x5 else ck 480 v4 (nm (σ.1 20 (Int32.toNatClampNeg v4)) (fun v8 => if x4 ≤ v8 then fX12_mend_174 (fX12_mend_98 k14 n) σ x1 x2 x3 x4 x5 else ck 4 x5 (nm (σ.1 36 (Int32.toNatClampNeg x5)) (fun v9 => bi (fX12_hasRoom σ v9 x3) (fun r10 => if r10 = 0 then fX12_mend_174 (fX12_mend_98 k14 n) σ x1 x2 x3 x4 x5 else ck 480 v4 (nm (ux_wI σ 20 (Int32.toNatClampNeg v4) x4) (fun σ12 => nm (x2 + 1) (fun v13 => fX12_mend_174 (fX12_mend_98 k14 n) σ12 x1 v13 x3 x4 x5))))))))))))))
noncomputable def fX12_mend_81 (k28 : S2 → Int32 → Int32 → Int32 → Int32 → Int32 → Option (Int32 × S2)) (σ : S2) (x1 : Int32) (x2 : Int32) (x3 : Int32) (x5 : Int32) (s0 : Int32) : Option (Int32 × S2) := nm (x5 + 1) (fun v14 => k28 σ x1 x2 x3 s0 v14)
noncomputable def fX12_mend_79 (k28 : S2 → Int32 → Int32 → Int32 → Int32 → Int32 → Option (Int32 × S2)) (σ : S2) (x1 : Int32) (x2 : Int32) (x3 : Int32) (x4 : Int32) (x5 : Int32) : Option (Int32 × S2) := fX12_mend_81 k28 σ x1 x2 x3 x5 x4
noncomputable def fX12_mend_28 (k14 : S2 → Int32 → Int32 → Int32 → Option (Int32 × S2)) : Nat → S2 → Int32 → Int32 → Int32 → Int32 → Int32 → Option (Int32 × S2)
  | 0, _, _, _, _, _, _ => none
  | n + 1, σ, x1, x2, x3, x4, x5 => if (σ.1 0 3) ≤ x5 then bs (fX12_chooseName σ x1 x3) (fun r15 σ16 => fX12_mend_98 k14 FU σ16 x1 x2 x3 x4 0) else ck 12 x5 (nm (σ.1 7 (Int32.toNatClampNeg x5)) (fun v18 => if v18 = 0 then ck 480 ((40 * x5) + x3) (nm (σ.1 20 (Int32.toNatClampNeg ((40 * x5) + x3))) (fun v19 => if v19 ≤ x4 then fX12_mend_79 (fX12_mend_28 k14 n) σ x1 x2 x3 x4 x5 else ck 480 ((40 * x5) + x3) (nm (σ.1 20 (Int32.toNatClampNeg ((40 * x5) + x3))) (fun v20 => fX12_mend_81 (fX12_mend_28 k14 n) σ x1 x2 x3 x5 v20)))) else fX12_mend_79 (fX12_mend_28 k14 n) σ x1 x2 x3 x4 x5))
noncomputable def fX12_mend_14  : Nat → S2 → Int32 → Int32 → Int32 → Option (Int32 × S2)
  | 0, _, _, _, _ => none
  | n + 1, σ, x1, x2, x3 => if (σ.1 0 0) ≤ x3 then some (x2, σ) else fX12_mend_28 (fX12_mend_14 n) FU σ x1 x2 x3 0 0
noncomputable def fX12_mend_0  (σ : S2) (x1 : Int32) : Option (Int32 × S2) := bi (fX12_isTable σ x1) (fun r21 => if r21 = 0 then some ((-1), σ) else fX12_mend_14 FU σ x1 0 0)
noncomputable def fX12_mend (σ : S2) (a1 : Int32) : Option (Int32 × S2) := fX12_mend_0 σ a1
noncomputable def fX12_leafOf_5  : Nat → S2 → Int32 → Int32 → Int32 → Option Int32
  | 0, _, _, _, _ => none
  | n + 1, σ, x1, x3, x4 => if (σ.1 0 0) ≤ x4 then some (x3) else ck 480 ((40 * x1) + x4) (nm (σ.1 20 (Int32.toNatClampNeg ((40 * x1) + x4))) (fun v1 => nm (x3 + ((x4 + 1) * v1)) (fun v2 => nm (x4 + 8) (fun v3 => fX12_leafOf_5 n σ x1 v2 v3))))
noncomputable def fX12_leafOf_0  (σ : S2) (x1 : Int32) (x2 : Int32) : Option Int32 := fX12_leafOf_5 FU σ x1 0 x2
noncomputable def fX12_leafOf (σ : S2) (a1 : Int32) (a2 : Int32) : Option Int32 := fX12_leafOf_0 σ a1 a2
noncomputable def fX12_areUnlike_6  : Nat → S2 → Int32 → Int32 → Int32 → Int32 → Int32 → Int32 → Option Int32
  | 0, _, _, _, _, _, _, _ => none
  | n + 1, σ, x1, x2, x3, x4, x5, x6 => if (x3 + x4) ≤ x6 then if x5 = 0 then some (0) else some (1) else bi (fX12_leafOf σ x1 x6) (fun r1 => bi (fX12_leafOf σ x2 x6) (fun r3 => nm (x5 + (r1 - r3)) (fun v5 => nm (x6 + 1) (fun v6 => fX12_areUnlike_6 n σ x1 x2 x3 x4 v5 v6))))
noncomputable def fX12_areUnlike_0  (σ : S2) (x1 : Int32) (x2 : Int32) (x3 : Int32) (x4 : Int32) : Option Int32 := fX12_areUnlike_6 FU σ x1 x2 x3 x4 0 x3
noncomputable def fX12_areUnlike (σ : S2) (a1 : Int32) (a2 : Int32) (a3 : Int32) (a4 : Int32) : Option Int32 := fX12_areUnlike_0 σ a1 a2 a3 a4
noncomputable def fX12_wordsBelow_0 (qX12_wordsBelow : S2 → Int32 → Int32 → Int32 → Int32 → Option Int32)  (σ : S2) (x1 : Int32) (x2 : Int32) (x3 : Int32) (x4 : Int32) : Option Int32 := if x4 = 1 then some (0) else bi (fX12_areUnlike σ x1 x2 x3 x4) (fun r1 => if r1 = 0 then some (0) else dz (2 : Int32) (bi (qX12_wordsBelow σ x1 x2 x3 (x4 / 2)) (fun r4 => dz (2 : Int32) (dz (2 : Int32) (bi (qX12_wordsBelow σ x1 x2 (x3 + (x4 / 2)) (x4 / 2)) (fun r8 => some ((2 + r4) + r8)))))))
noncomputable def eX12_wordsBelow (qX12_wordsBelow : S2 → Int32 → Int32 → Int32 → Int32 → Option Int32) (σ : S2) (a1 : Int32) (a2 : Int32) (a3 : Int32) (a4 : Int32) : Option Int32 := fX12_wordsBelow_0 qX12_wordsBelow σ a1 a2 a3 a4
noncomputable def GX12_wordsBelow : Nat → Nat → S2 → Int32 → Int32 → Int32 → Int32 → Option Int32
  | 0, _, _, _, _, _, _ => none
  | d + 1, _, σ, a1, a2, a3, a4 => eX12_wordsBelow (GX12_wordsBelow d 0) σ a1 a2 a3 a4
noncomputable def fX12_wordsBelow (σ : S2) (a1 : Int32) (a2 : Int32) (a3 : Int32) (a4 : Int32) : Option Int32 := GX12_wordsBelow 24 0 σ a1 a2 a3 a4
noncomputable def fX12_trees_80 (k54 : S2 → Int32 → Int32 → Int32 → Int32 → Option Int32) (σ : S2) (x1 : Int32) (x2 : Int32) (x5 : Int32) (s0 : Int32) (s1 : Int32) : Option Int32 := nm (s1 + s0) (fun v1 => nm (x5 + 1) (fun v2 => k54 σ x1 x2 v1 v2))
noncomputable def fX12_trees_54  : Nat → S2 → Int32 → Int32 → Int32 → Int32 → Option Int32
  | 0, _, _, _, _, _ => none
  | n + 1, σ, x1, x2, x4, x5 => if 8 ≤ x5 then some (x4) else bi (fX12_areUnlike σ x1 x2 x5 1) (fun r3 => if r3 = 0 then fX12_trees_80 (fX12_trees_54 n) σ x1 x2 x5 0 x4 else fX12_trees_80 (fX12_trees_54 n) σ x1 x2 x5 1 x4)
noncomputable def fX12_trees_0  (σ : S2) (x1 : Int32) (x2 : Int32) (x3 : Int32) : Option Int32 := bi (fX12_isKeeper σ x1) (fun r5 => if r5 = 0 then some ((-1)) else bi (fX12_isKeeper σ x2) (fun r7 => if r7 = 0 then some ((-1)) else if x1 = x2 then some ((-1)) else bi (fX12_in σ x3 0 1) (fun r9 => if r9 = 0 then some ((-1)) else if x3 = 0 then bi (fX12_wordsBelow σ x1 x2 0 8) (fun r11 => some (1 + r11)) else fX12_trees_54 FU σ x1 x2 0 0)))
noncomputable def fX12_trees (σ : S2) (a1 : Int32) (a2 : Int32) (a3 : Int32) : Option Int32 := fX12_trees_0 σ a1 a2 a3
noncomputable def fX12_noon_46  : Nat → S2 → Int32 → Int32 → Int32 → Int32 → Option Int32
  | 0, _, _, _, _, _ => none
  | n + 1, σ, x2, x3, x4, x5 => if x4 < x5 then some ((-2)) else dz x5 (if x3 < (((x2 + x5) - 1) / x5) then nm (x5 + 1) (fun v2 => fX12_noon_46 n σ x2 x3 x4 v2) else some (x5))
noncomputable def fX12_noon_0  (σ : S2) (x1 : Int32) (x2 : Int32) (x3 : Int32) : Option Int32 := bi (fX12_isTable σ x1) (fun r3 => if r3 = 0 then some ((-1)) else bi (fX12_in σ x2 0 9999) (fun r5 => if r5 = 0 then some ((-1)) else bi (fX12_in σ x3 0 9999) (fun r7 => if r7 = 0 then some ((-1)) else ck 11 x1 (nm (σ.1 8 (Int32.toNatClampNeg x1)) (fun v9 => bi (fX12_ones σ v9) (fun r10 => fX12_noon_46 FU σ x2 x3 r10 1))))))
noncomputable def fX12_noon (σ : S2) (a1 : Int32) (a2 : Int32) (a3 : Int32) : Option Int32 := fX12_noon_0 σ a1 a2 a3
noncomputable def fX12_lies_75  (σ : S2) (x1 : Int32) (x4 : Int32) (s0 : Int32) : Option Int32 := if x4 = 0 then some (s0) else ck 12 x1 (nm (σ.1 4 (Int32.toNatClampNeg x1)) (fun v1 => some (4 * (v1 - s0))))
noncomputable def fX12_lies_0  (σ : S2) (x1 : Int32) (x2 : Int32) (x3 : Int32) (x4 : Int32) : Option Int32 := bi (fX12_isKeeper σ x1) (fun r2 => if r2 = 0 then some ((-1)) else bi (fX12_in σ x2 0 99) (fun r4 => if r4 = 0 then some ((-1)) else bi (fX12_in σ x3 1 99) (fun r6 => if r6 = 0 then some ((-1)) else if x3 < x2 then some ((-1)) else bi (fX12_in σ x4 0 1) (fun r8 => if r8 = 0 then some ((-1)) else ck 12 x1 (nm (σ.1 4 (Int32.toNatClampNeg x1)) (fun v10 => dz x3 (nm ((((v10 * (x3 - x2)) + x3) - 1) / x3) (fun v12 => if 1 ≤ v12 then fX12_lies_75 σ x1 x4 v12 else fX12_lies_75 σ x1 x4 1))))))))
noncomputable def fX12_lies (σ : S2) (a1 : Int32) (a2 : Int32) (a3 : Int32) (a4 : Int32) : Option Int32 := fX12_lies_0 σ a1 a2 a3 a4
noncomputable def fX12_isComing_2  : Nat → S2 → Int32 → Int32 → Option Int32
  | 0, _, _, _ => none
  | n + 1, σ, x1, x2 => if (σ.1 0 30) ≤ x2 then some (0) else ck 5 x2 (nm (σ.1 26 (Int32.toNatClampNeg x2)) (fun v1 => if v1 = x1 then some (1) else nm (x2 + 1) (fun v2 => fX12_isComing_2 n σ x1 v2)))
noncomputable def fX12_isComing_0  (σ : S2) (x1 : Int32) : Option Int32 := fX12_isComing_2 FU σ x1 0
noncomputable def fX12_isComing (σ : S2) (a1 : Int32) : Option Int32 := fX12_isComing_0 σ a1
noncomputable def fX12_comes_0  (σ : S2) (x1 : Int32) : Option (Int32 × S2) := bi (fX12_isKeeper σ x1) (fun r1 => if r1 = 0 then some ((-1), σ) else bi (fX12_isComing σ x1) (fun r3 => if r3 = 0 then if (σ.1 0 30) = 5 then some ((-3), σ) else ck 5 (σ.1 0 30) (nm (ux_wI σ 26 (Int32.toNatClampNeg (σ.1 0 30)) x1) (fun σ5 => nm (ux_wI σ5 0 30 ((σ5.1 0 30) + 1)) (fun σ6 => some (σ6.1 0 30, σ6)))) else some ((-1), σ)))
noncomputable def fX12_comes (σ : S2) (a1 : Int32) : Option (Int32 × S2) := fX12_comes_0 σ a1
noncomputable def fX12_tries_162 (k71 : S2 → Int32 → Int32 → Option (Unit × S2)) (σ : S2) (x1 : Int32) (x4 : Int32) (s0 : Int32) (s1 : Int32) : Option (Unit × S2) := ck 132 s1 (nm (ux_wI σ 16 (Int32.toNatClampNeg s1) s0) (fun σ1 => nm (x4 + 1) (fun v2 => k71 σ1 x1 v2)))
noncomputable def fX12_tries_120 (k71 : S2 → Int32 → Int32 → Option (Unit × S2)) (σ : S2) (x1 : Int32) (x4 : Int32) (s0 : Int32) (s1 : Int32) : Option (Unit × S2) := ck 132 s1 (nm (ux_wI σ 15 (Int32.toNatClampNeg s1) s0) (fun σ3 => bi (fX12_isIn σ3 x1 x4) (fun r4 => if r4 = 0 then ck 12 x4 (nm (σ3.1 3 (Int32.toNatClampNeg x4)) (fun v6 => fX12_tries_162 k71 σ3 x1 x4 v6 (120 + x4))) else ck 132 ((12 * x1) + x4) (nm (σ3.1 16 (Int32.toNatClampNeg ((12 * x1) + x4))) (fun v7 => fX12_tries_162 k71 σ3 x1 x4 v7 (120 + x4))))))
noncomputable def fX12_tries_71  : Nat → S2 → Int32 → Int32 → Option (Unit × S2)
  | 0, _, _, _ => none
  | n + 1, σ, x1, x4 => if (σ.1 0 3) ≤ x4 then bs (fX12_numbers σ 10) (fun r8 σ9 => bs (fX12_reads σ9 10) (fun r11 σ12 => bs (fX12_sits σ12 10) (fun r14 σ15 => some ((), σ15)))) else bi (fX12_isIn σ x1 x4) (fun r17 => if r17 = 0 then bi (fX12_countsNow σ x4) (fun r19 => fX12_tries_120 (fX12_tries_71 n) σ x1 x4 r19 (120 + x4)) else ck 132 ((12 * x1) + x4) (nm (σ.1 15 (Int32.toNatClampNeg ((12 * x1) + x4))) (fun v21 => fX12_tries_120 (fX12_tries_71 n) σ x1 x4 v21 (120 + x4))))
noncomputable def fX12_tries_32  : Nat → S2 → Int32 → Int32 → Option (Unit × S2)
  | 0, _, _, _ => none
  | n + 1, σ, x1, x4 => if 80 ≤ x4 then fX12_tries_71 FU σ x1 0 else ck 880 ((80 * x1) + x4) (nm (σ.1 14 (Int32.toNatClampNeg ((80 * x1) + x4))) (fun v22 => ck 880 (800 + x4) (nm (ux_wI σ 14 (Int32.toNatClampNeg (800 + x4)) v22) (fun σ23 => nm (x4 + 1) (fun v24 => fX12_tries_32 n σ23 x1 v24)))))
noncomputable def fX12_tries_0  (σ : S2) (x1 : Int32) (x2 : Int32) (x3 : Int32) : Option (Unit × S2) := ck 11 10 (nm (ux_wI σ 8 (Int32.toNatClampNeg 10) x2) (fun σ25 => ck 11 10 (nm (ux_wI σ25 9 (Int32.toNatClampNeg 10) x3) (fun σ26 => ck 11 x1 (nm (σ26.1 13 (Int32.toNatClampNeg x1)) (fun v27 => ck 11 10 (nm (ux_wI σ26 13 (Int32.toNatClampNeg 10) v27) (fun σ28 => fX12_tries_32 FU σ28 x1 0))))))))
noncomputable def fX12_tries (σ : S2) (a1 : Int32) (a2 : Int32) (a3 : Int32) : Option (Unit × S2) := fX12_tries_0 σ a1 a2 a3
noncomputable def fX12_setBy_10  : Nat → S2 → Int32 → Int32 → Int32 → Option Int32
  | 0, _, _, _, _ => none
  | n + 1, σ, x2, x3, x4 => if (σ.1 0 30) ≤ x4 then some (x3) else ck 5 x4 (nm (σ.1 26 (Int32.toNatClampNeg x4)) (fun v1 => nm (x3 ^^^ (((x2 >>> (x4 &&& 31)) &&& 1) <<< (v1 &&& 31))) (fun v2 => nm (x4 + 1) (fun v3 => fX12_setBy_10 n σ x2 v2 v3))))
noncomputable def fX12_setBy_0  (σ : S2) (x1 : Int32) (x2 : Int32) : Option Int32 := ck 11 x1 (nm (σ.1 8 (Int32.toNatClampNeg x1)) (fun v4 => fX12_setBy_10 FU σ x2 v4 0))
noncomputable def fX12_setBy (σ : S2) (a1 : Int32) (a2 : Int32) : Option Int32 := fX12_setBy_0 σ a1 a2
noncomputable def fX12_nextOrder_108  : Nat → S2 → Int32 → Int32 → Option (Int32 × S2)
  | 0, _, _, _ => none
  | n + 1, σ, x5, x6 => if x5 ≤ x6 then some (1, σ) else ck 5 x6 (nm (σ.1 39 (Int32.toNatClampNeg x6)) (fun v1 => ck 5 x5 (nm (σ.1 39 (Int32.toNatClampNeg x5)) (fun v2 => ck 5 x6 (nm (ux_wI σ 39 (Int32.toNatClampNeg x6) v2) (fun σ3 => ck 5 x5 (nm (ux_wI σ3 39 (Int32.toNatClampNeg x5) v1) (fun σ4 => nm (x5 + (-1)) (fun v5 => nm (x6 + 1) (fun v6 => fX12_nextOrder_108 n σ4 v5 v6))))))))))
noncomputable def fX12_nextOrder_49  : Nat → S2 → Int32 → Int32 → Int32 → Option (Int32 × S2)
  | 0, _, _, _, _ => none
  | n + 1, σ, x1, x2, x3 => ck 5 x3 (nm (σ.1 39 (Int32.toNatClampNeg x3)) (fun v7 => ck 5 x2 (nm (σ.1 39 (Int32.toNatClampNeg x2)) (fun v8 => if v8 ≤ v7 then ck 5 x2 (nm (σ.1 39 (Int32.toNatClampNeg x2)) (fun v9 => ck 5 x3 (nm (σ.1 39 (Int32.toNatClampNeg x3)) (fun v10 => ck 5 x2 (nm (ux_wI σ 39 (Int32.toNatClampNeg x2) v10) (fun σ11 => ck 5 x3 (nm (ux_wI σ11 39 (Int32.toNatClampNeg x3) v9) (fun σ12 => nm (x1 - 1) (fun v13 => nm (x2 + 1) (fun v14 => fX12_nextOrder_108 FU σ12 v13 v14)))))))))) else nm (x3 + (-1)) (fun v15 => fX12_nextOrder_49 n σ x1 x2 v15)))))
noncomputable def fX12_nextOrder_39  (σ : S2) (x1 : Int32) (x2 : Int32) : Option (Int32 × S2) := if 0 ≤ x2 then nm (x1 - 1) (fun v16 => fX12_nextOrder_49 FU σ x1 x2 v16) else some (0, σ)
noncomputable def fX12_nextOrder_21 (k4 : S2 → Int32 → Int32 → Option (Int32 × S2)) (σ : S2) (x1 : Int32) (x2 : Int32) (s0 : Int32) : Option (Int32 × S2) := ck 5 s0 (nm (σ.1 39 (Int32.toNatClampNeg s0)) (fun v17 => ck 5 (x2 + 1) (nm (σ.1 39 (Int32.toNatClampNeg (x2 + 1))) (fun v18 => if v17 ≤ v18 then fX12_nextOrder_39 σ x1 x2 else nm (x2 + (-1)) (fun v19 => k4 σ x1 v19)))))
noncomputable def fX12_nextOrder_4  : Nat → S2 → Int32 → Int32 → Option (Int32 × S2)
  | 0, _, _, _ => none
  | n + 1, σ, x1, x2 => if x2 < 0 then fX12_nextOrder_39 σ x1 x2 else if 0 ≤ x2 then fX12_nextOrder_21 (fX12_nextOrder_4 n) σ x1 x2 x2 else fX12_nextOrder_21 (fX12_nextOrder_4 n) σ x1 x2 0
noncomputable def fX12_nextOrder_0  (σ : S2) (x1 : Int32) : Option (Int32 × S2) := nm (x1 - 2) (fun v20 => fX12_nextOrder_4 FU σ x1 v20)
noncomputable def fX12_nextOrder (σ : S2) (a1 : Int32) : Option (Int32 × S2) := fX12_nextOrder_0 σ a1
noncomputable def fX12_movesBy_44 (k7 : S2 → Int32 → Int32 → Int32 → Int32 → Option Int32) : Nat → S2 → Int32 → Int32 → Int32 → Int32 → Int32 → Int32 → Option Int32
  | 0, _, _, _, _, _, _, _ => none
  | n + 1, σ, x1, x2, x3, x4, x5, x6 => if (σ.1 0 0) ≤ x6 then nm (x4 + 1) (fun v1 => k7 σ x1 x2 x5 v1) else ck 1280 ((40 * x5) + x6) (nm (σ.1 38 (Int32.toNatClampNeg ((40 * x5) + x6))) (fun v2 => ck 1280 ((40 * x3) + x6) (nm (σ.1 38 (Int32.toNatClampNeg ((40 * x3) + x6))) (fun v3 => bi (fX12_ones σ (v2 &&& (v3 ^^^ (-1)))) (fun r4 => nm (x2 + r4) (fun v6 => nm (x6 + 1) (fun v7 => fX12_movesBy_44 k7 n σ x1 v6 x3 x4 x5 v7)))))))
noncomputable def fX12_movesBy_7  : Nat → S2 → Int32 → Int32 → Int32 → Int32 → Option Int32
  | 0, _, _, _, _, _ => none
  | n + 1, σ, x1, x2, x3, x4 => if (σ.1 0 30) ≤ x4 then some (x2) else ck 5 x4 (nm (σ.1 39 (Int32.toNatClampNeg x4)) (fun v8 => nm (x3 ||| (1 <<< (v8 &&& 31))) (fun v9 => bi (fX12_setBy σ x1 v9) (fun r10 => if r10 = 0 then some ((-1)) else fX12_movesBy_44 (fX12_movesBy_7 n) FU σ x1 x2 x3 x4 v9 0))))
noncomputable def fX12_movesBy_0  (σ : S2) (x1 : Int32) : Option Int32 := fX12_movesBy_7 FU σ x1 0 0 0
noncomputable def fX12_movesBy (σ : S2) (a1 : Int32) : Option Int32 := fX12_movesBy_0 σ a1
noncomputable def fX12_order_195 (k126 : S2 → Int32 → Int32 → Int32 → Option (Int32 × S2)) (σ : S2) (x1 : Int32) (x2 : Int32) : Option (Int32 × S2) := bs (fX12_nextOrder σ (σ.1 0 30)) (fun r1 σ2 => k126 σ2 x1 x2 r1)
noncomputable def fX12_order_166 (k126 : S2 → Int32 → Int32 → Int32 → Option (Int32 × S2)) : Nat → S2 → Int32 → Int32 → Int32 → Option (Int32 × S2)
  | 0, _, _, _, _ => none
  | n + 1, σ, x1, x2, x5 => if (σ.1 0 30) ≤ x5 then fX12_order_195 k126 σ x1 x2 else ck 5 x5 (nm (σ.1 39 (Int32.toNatClampNeg x5)) (fun v4 => ck 5 x5 (nm (ux_wI σ 27 (Int32.toNatClampNeg x5) v4) (fun σ5 => nm (x5 + 1) (fun v6 => fX12_order_166 k126 n σ5 x1 x2 v6)))))
noncomputable def fX12_order_152 (k126 : S2 → Int32 → Int32 → Int32 → Option (Int32 × S2)) (σ : S2) (x1 : Int32) (x4 : Int32) : Option (Int32 × S2) := nm (ux_wI σ 0 32 (σ.1 0 30)) (fun σ7 => fX12_order_166 k126 FU σ7 x1 x4 0)
noncomputable def fX12_order_126  : Nat → S2 → Int32 → Int32 → Int32 → Option (Int32 × S2)
  | 0, _, _, _, _ => none
  | n + 1, σ, x1, x2, x3 => if x3 = 0 then if 0 ≤ x2 then nm (ux_wI σ 0 30 0) (fun σ8 => some (x2, σ8)) else some ((-2), σ) else bi (fX12_movesBy σ x1) (fun r9 => if r9 < 0 then fX12_order_195 (fX12_order_126 n) σ x1 x2 else if x2 < 0 then fX12_order_152 (fX12_order_126 n) σ x1 r9 else if x2 ≤ r9 then fX12_order_195 (fX12_order_126 n) σ x1 x2 else fX12_order_152 (fX12_order_126 n) σ x1 r9)
noncomputable def fX12_order_101  : Nat → S2 → Int32 → Int32 → Option (Int32 × S2)
  | 0, _, _, _ => none
  | n + 1, σ, x1, x2 => if (σ.1 0 30) ≤ x2 then fX12_order_126 FU σ x1 (-1) 1 else ck 5 x2 (nm (ux_wI σ 39 (Int32.toNatClampNeg x2) x2) (fun σ11 => nm (x2 + 1) (fun v12 => fX12_order_101 n σ11 x1 v12)))
noncomputable def fX12_order_93 (k19 : S2 → Int32 → Int32 → Option (Int32 × S2)) (σ : S2) (x1 : Int32) (x2 : Int32) : Option (Int32 × S2) := nm (x2 + 1) (fun v13 => k19 σ x1 v13)
noncomputable def fX12_order_57 (k19 : S2 → Int32 → Int32 → Option (Int32 × S2)) : Nat → S2 → Int32 → Int32 → Int32 → Option (Int32 × S2)
  | 0, _, _, _, _ => none
  | n + 1, σ, x1, x2, x3 => if (σ.1 0 0) ≤ x3 then fX12_order_93 k19 σ x1 x2 else bs (fX12_chooseName σ 10 x3) (fun r14 σ15 => bi (fX12_bits σ15) (fun r17 => ck 1280 ((40 * x2) + x3) (nm (ux_wI σ15 38 (Int32.toNatClampNeg ((40 * x2) + x3)) r17) (fun σ19 => nm (x3 + 1) (fun v20 => fX12_order_57 k19 n σ19 x1 x2 v20)))))
noncomputable def fX12_order_19  : Nat → S2 → Int32 → Int32 → Option (Int32 × S2)
  | 0, _, _, _ => none
  | n + 1, σ, x1, x2 => if (1 <<< ((σ.1 0 30) &&& 31)) ≤ x2 then fX12_order_101 FU σ x1 0 else bi (fX12_setBy σ x1 x2) (fun r21 => if r21 = 0 then fX12_order_93 (fX12_order_19 n) σ x1 x2 else bi (fX12_setBy σ x1 x2) (fun r23 => ck 11 x1 (nm (σ.1 9 (Int32.toNatClampNeg x1)) (fun v25 => bs (fX12_tries σ x1 r23 v25) (fun r26 σ27 => fX12_order_57 (fX12_order_19 n) FU σ27 x1 x2 0)))))
noncomputable def fX12_order_0  (σ : S2) (x1 : Int32) : Option (Int32 × S2) := bi (fX12_isTable σ x1) (fun r29 => if r29 = 0 then some ((-1), σ) else if (σ.1 0 30) = 0 then some ((-1), σ) else fX12_order_19 FU σ x1 0)
noncomputable def fX12_order (σ : S2) (a1 : Int32) : Option (Int32 × S2) := fX12_order_0 σ a1
noncomputable def fX12_ordered_0  (σ : S2) (x1 : Int32) : Option Int32 := bi (fX12_in σ x1 0 ((σ.1 0 32) - 1)) (fun r1 => if r1 = 0 then some ((-1)) else ck 5 x1 (nm (σ.1 27 (Int32.toNatClampNeg x1)) (fun v3 => some (v3))))
noncomputable def fX12_ordered (σ : S2) (a1 : Int32) : Option Int32 := fX12_ordered_0 σ a1
noncomputable def fX12_turning_0  (σ : S2) (x1 : Int32) : Option (Int32 × S2) := if (σ.1 0 34) = 6 then some ((-3), σ) else ck 6 (σ.1 0 34) (nm (ux_wI σ 28 (Int32.toNatClampNeg (σ.1 0 34)) x1) (fun σ1 => nm (ux_wI σ1 0 34 ((σ1.1 0 34) + 1)) (fun σ2 => some (σ2.1 0 34, σ2))))
noncomputable def fX12_turning (σ : S2) (a1 : Int32) : Option (Int32 × S2) := fX12_turning_0 σ a1
noncomputable def fX12_harm_129 (k21 : S2 → Int32 → Int32 → Int32 → Option (Int32 × S2)) (σ : S2) (x1 : Int32) (x2 : Int32) (x3 : Int32) : Option (Int32 × S2) := nm (x3 + 1) (fun v1 => k21 σ x1 x2 v1)
noncomputable def fX12_harm_121 (k21 : S2 → Int32 → Int32 → Int32 → Option (Int32 × S2)) (σ : S2) (x1 : Int32) (x3 : Int32) (x4 : Int32) : Option (Int32 × S2) := nm (ux_wI σ 0 36 x4) (fun σ2 => fX12_harm_129 k21 σ2 x1 x3 x3)
noncomputable def fX12_harm_100 (k52 : S2 → Int32 → Int32 → Int32 → Int32 → Int32 → Option (Int32 × S2)) (σ : S2) (x1 : Int32) (x2 : Int32) (x3 : Int32) (x5 : Int32) (s0 : Int32) : Option (Int32 × S2) := nm (x5 + 1) (fun v3 => k52 σ x1 x2 x3 s0 v3)
noncomputable def fX12_harm_84 (k52 : S2 → Int32 → Int32 → Int32 → Int32 → Int32 → Option (Int32 × S2)) (σ : S2) (x1 : Int32) (x2 : Int32) (x3 : Int32) (x4 : Int32) (x5 : Int32) (s0 : Int32) : Option (Int32 × S2) := if s0 ≤ x4 then fX12_harm_100 k52 σ x1 x2 x3 x5 x4 else fX12_harm_100 k52 σ x1 x2 x3 x5 s0
noncomputable def fX12_harm_52 (k21 : S2 → Int32 → Int32 → Int32 → Option (Int32 × S2)) : Nat → S2 → Int32 → Int32 → Int32 → Int32 → Int32 → Option (Int32 × S2)
  | 0, _, _, _, _, _, _ => none
  | n + 1, σ, x1, x2, x3, x4, x5 => if (σ.1 0 3) ≤ x5 then if x2 < 0 then fX12_harm_121 k21 σ x1 x3 x4 else if (σ.1 0 36) ≤ x4 then fX12_harm_129 k21 σ x1 x2 x3 else fX12_harm_121 k21 σ x1 x3 x4 else bi (fX12_isIn σ 10 x5) (fun r4 => if r4 = 0 then fX12_harm_84 (fX12_harm_52 k21 n) σ x1 x2 x3 x4 x5 0 else bs (fX12_shareOf σ 10 x5) (fun r6 σ7 => fX12_harm_84 (fX12_harm_52 k21 n) σ7 x1 x2 x3 x4 x5 r6))
noncomputable def fX12_harm_21  : Nat → S2 → Int32 → Int32 → Int32 → Option (Int32 × S2)
  | 0, _, _, _, _ => none
  | n + 1, σ, x1, x2, x3 => if (σ.1 0 34) ≤ x3 then nm (ux_wI σ 0 34 0) (fun σ9 => some (x2, σ9)) else ck 11 x1 (nm (σ.1 8 (Int32.toNatClampNeg x1)) (fun v10 => ck 6 x3 (nm (σ.1 28 (Int32.toNatClampNeg x3)) (fun v11 => bs (fX12_tries σ x1 v10 v11) (fun r12 σ13 => fX12_harm_52 (fX12_harm_21 n) FU σ13 x1 x2 x3 0 0)))))
noncomputable def fX12_harm_0  (σ : S2) (x1 : Int32) : Option (Int32 × S2) := bi (fX12_isTable σ x1) (fun r15 => if r15 = 0 then some ((-1), σ) else if (σ.1 0 34) = 0 then some ((-1), σ) else fX12_harm_21 FU σ x1 (-1) 0)
noncomputable def fX12_harm (σ : S2) (a1 : Int32) : Option (Int32 × S2) := fX12_harm_0 σ a1
noncomputable def fX12_harmed_0  (σ : S2)  : Option Int32 := some (σ.1 0 36)
noncomputable def fX12_harmed (σ : S2)  : Option Int32 := fX12_harmed_0 σ
noncomputable def fX12_begins_19  (σ : S2)  : Option (Unit × S2) := nm (ux_wI σ 0 38 ((σ.1 0 38) + 1)) (fun σ1 => some ((), σ1))
noncomputable def fX12_begins_0  (σ : S2) (x1 : Int32) : Option (Unit × S2) := if 24 ≤ (σ.1 0 38) then fX12_begins_19 σ else ck 24 (σ.1 0 38) (nm (ux_wI σ 29 (Int32.toNatClampNeg (σ.1 0 38)) x1) (fun σ2 => fX12_begins_19 σ2))
noncomputable def fX12_begins (σ : S2) (a1 : Int32) : Option (Unit × S2) := fX12_begins_0 σ a1
noncomputable def fX12_aboveOf_0  (σ : S2) (x0 : Int32) : Option Int32 := if x0 = 6 then some (1) else some (0)
noncomputable def fX12_aboveOf (σ : S2) (a0 : Int32) : Option Int32 := fX12_aboveOf_0 σ a0
noncomputable def fX12_findsFrom_0 (qX12_findsFrom : S2 → Int32 → Int32 → Int32 → Option (Int32 × S2))  (σ : S2) (x1 : Int32) (x2 : Int32) (x3 : Int32) : Option (Int32 × S2) := if x2 = 0 then bs (fX12_begins σ 1) (fun r2 σ3 => some (x3 + x1, σ3)) else if x2 = 1 then bs (fX12_begins σ 20) (fun r6 σ7 => bs (qX12_findsFrom σ7 x1 0 x3) (fun r9 σ10 => ck 12 x1 (nm (σ10.1 4 (Int32.toNatClampNeg x1)) (fun v12 => some (r9 + v12, σ10))))) else if x2 = 2 then bi (fX12_aboveOf σ x2) (fun r14 => bs (qX12_findsFrom σ x1 r14 x3) (fun r16 σ17 => some (r16, σ17))) else if x2 = 3 then bi (fX12_aboveOf σ x2) (fun r20 => bs (qX12_findsFrom σ x1 r20 x3) (fun r22 σ23 => some (r22, σ23))) else if x2 = 4 then bi (fX12_aboveOf σ x2) (fun r26 => bs (qX12_findsFrom σ x1 r26 x3) (fun r28 σ29 => some (r28, σ29))) else if x2 = 5 then bs (fX12_begins σ 60) (fun r32 σ33 => bs (qX12_findsFrom σ33 x1 0 (x3 + 1)) (fun r35 σ36 => some (r35, σ36))) else if x2 = 6 then bs (fX12_begins σ 71) (fun r39 σ40 => bs (qX12_findsFrom σ40 x1 1 x3) (fun r42 σ43 => some (r42 * 2, σ43))) else bi (fX12_aboveOf σ x2) (fun r45 => bs (qX12_findsFrom σ x1 r45 x3) (fun r47 σ48 => some (r47, σ48)))
noncomputable def eX12_findsFrom (qX12_findsFrom : S2 → Int32 → Int32 → Int32 → Option (Int32 × S2)) (σ : S2) (a1 : Int32) (a2 : Int32) (a3 : Int32) : Option (Int32 × S2) := fX12_findsFrom_0 qX12_findsFrom σ a1 a2 a3
noncomputable def GX12_findsFrom : Nat → Nat → S2 → Int32 → Int32 → Int32 → Option (Int32 × S2)
  | 0, _, _, _, _, _ => none
  | d + 1, _, σ, a1, a2, a3 => eX12_findsFrom (GX12_findsFrom d 0) σ a1 a2 a3
noncomputable def fX12_findsFrom (σ : S2) (a1 : Int32) (a2 : Int32) (a3 : Int32) : Option (Int32 × S2) := GX12_findsFrom 24 0 σ a1 a2 a3
noncomputable def fX12_movesFrom_0 (qX12_movesFrom : S2 → Int32 → Int32 → Int32 → Option (Int32 × S2))  (σ : S2) (x1 : Int32) (x2 : Int32) (x3 : Int32) : Option (Int32 × S2) := if x2 = 0 then bs (fX12_begins σ 11) (fun r2 σ3 => some (x3 ^^^ x1, σ3)) else if x2 = 2 then bs (fX12_begins σ 30) (fun r6 σ7 => bs (qX12_movesFrom σ7 x1 0 x3) (fun r9 σ10 => some (r9 * 3, σ10))) else if x2 = 5 then bs (fX12_begins σ 61) (fun r13 σ14 => bs (qX12_movesFrom σ14 x1 0 x3) (fun r16 σ17 => ck 12 x1 (nm (σ17.1 5 (Int32.toNatClampNeg x1)) (fun v19 => bs (fX12_findsFrom σ17 x1 v19 2) (fun r20 σ21 => some (r16 - r20, σ21)))))) else bi (fX12_aboveOf σ x2) (fun r23 => bs (qX12_movesFrom σ x1 r23 x3) (fun r25 σ26 => some (r25, σ26)))
noncomputable def eX12_movesFrom (qX12_movesFrom : S2 → Int32 → Int32 → Int32 → Option (Int32 × S2)) (σ : S2) (a1 : Int32) (a2 : Int32) (a3 : Int32) : Option (Int32 × S2) := fX12_movesFrom_0 qX12_movesFrom σ a1 a2 a3
noncomputable def GX12_movesFrom : Nat → Nat → S2 → Int32 → Int32 → Int32 → Option (Int32 × S2)
  | 0, _, _, _, _, _ => none
  | d + 1, _, σ, a1, a2, a3 => eX12_movesFrom (GX12_movesFrom d 0) σ a1 a2 a3
noncomputable def fX12_movesFrom (σ : S2) (a1 : Int32) (a2 : Int32) (a3 : Int32) : Option (Int32 × S2) := GX12_movesFrom 24 0 σ a1 a2 a3
noncomputable def fX12_keepsFrom_0 (qX12_keepsFrom : S2 → Int32 → Int32 → Int32 → Option (Int32 × S2))  (σ : S2) (x1 : Int32) (x2 : Int32) (x3 : Int32) : Option (Int32 × S2) := if x2 = 0 then bs (fX12_begins σ 10) (fun r2 σ3 => ck 12 x1 (nm (σ3.1 5 (Int32.toNatClampNeg x1)) (fun v5 => bs (fX12_findsFrom σ3 x1 v5 x3) (fun r6 σ7 => some (r6 * 2, σ7))))) else if x2 = 3 then bs (fX12_begins σ 40) (fun r10 σ11 => bs (qX12_keepsFrom σ11 x1 0 x3) (fun r13 σ14 => some (-r13, σ14))) else if x2 = 6 then bs (fX12_begins σ 70) (fun r17 σ18 => bs (qX12_keepsFrom σ18 x1 1 x3) (fun r20 σ21 => bs (fX12_movesFrom σ21 x1 1 x3) (fun r23 σ24 => some (r20 + r23, σ24)))) else bi (fX12_aboveOf σ x2) (fun r26 => bs (qX12_keepsFrom σ x1 r26 x3) (fun r28 σ29 => some (r28, σ29)))
noncomputable def eX12_keepsFrom (qX12_keepsFrom : S2 → Int32 → Int32 → Int32 → Option (Int32 × S2)) (σ : S2) (a1 : Int32) (a2 : Int32) (a3 : Int32) : Option (Int32 × S2) := fX12_keepsFrom_0 qX12_keepsFrom σ a1 a2 a3
noncomputable def GX12_keepsFrom : Nat → Nat → S2 → Int32 → Int32 → Int32 → Option (Int32 × S2)
  | 0, _, _, _, _, _ => none
  | d + 1, _, σ, a1, a2, a3 => eX12_keepsFrom (GX12_keepsFrom d 0) σ a1 a2 a3
noncomputable def fX12_keepsFrom (σ : S2) (a1 : Int32) (a2 : Int32) (a3 : Int32) : Option (Int32 × S2) := GX12_keepsFrom 24 0 σ a1 a2 a3
noncomputable def fX12_tellsFrom_0 (qX12_tellsFrom : S2 → Int32 → Int32 → Int32 → Option (Int32 × S2))  (σ : S2) (x1 : Int32) (x2 : Int32) (x3 : Int32) : Option (Int32 × S2) := if x2 = 0 then bs (fX12_begins σ 2) (fun r2 σ3 => ck 12 x1 (nm (σ3.1 5 (Int32.toNatClampNeg x1)) (fun v5 => bs (fX12_keepsFrom σ3 x1 v5 x3) (fun r6 σ7 => ck 12 x1 (nm (σ7.1 5 (Int32.toNatClampNeg x1)) (fun v9 => bs (fX12_movesFrom σ7 x1 v9 1) (fun r10 σ11 => some (r6 - r10, σ11)))))))) else if x2 = 4 then bs (fX12_begins σ 50) (fun r14 σ15 => bs (qX12_tellsFrom σ15 x1 0 x3) (fun r17 σ18 => some (r17 ^^^ 9, σ18))) else bi (fX12_aboveOf σ x2) (fun r20 => bs (qX12_tellsFrom σ x1 r20 x3) (fun r22 σ23 => some (r22, σ23)))
noncomputable def eX12_tellsFrom (qX12_tellsFrom : S2 → Int32 → Int32 → Int32 → Option (Int32 × S2)) (σ : S2) (a1 : Int32) (a2 : Int32) (a3 : Int32) : Option (Int32 × S2) := fX12_tellsFrom_0 qX12_tellsFrom σ a1 a2 a3
noncomputable def GX12_tellsFrom : Nat → Nat → S2 → Int32 → Int32 → Int32 → Option (Int32 × S2)
  | 0, _, _, _, _, _ => none
  | d + 1, _, σ, a1, a2, a3 => eX12_tellsFrom (GX12_tellsFrom d 0) σ a1 a2 a3
noncomputable def fX12_tellsFrom (σ : S2) (a1 : Int32) (a2 : Int32) (a3 : Int32) : Option (Int32 × S2) := GX12_tellsFrom 24 0 σ a1 a2 a3
noncomputable def fX12_act_0  (σ : S2) (x1 : Int32) (x2 : Int32) (x3 : Int32) : Option (Int32 × S2) := nm (ux_wI σ 0 38 0) (fun σ1 => bi (fX12_isKeeper σ1 x1) (fun r2 => if r2 = 0 then some (0, σ1) else bi (fX12_in σ1 x2 0 3) (fun r4 => if r4 = 0 then some (0, σ1) else ck 12 x1 (nm (σ1.1 5 (Int32.toNatClampNeg x1)) (fun v6 => if x2 = 0 then bs (fX12_findsFrom σ1 x1 v6 x3) (fun r16 σ17 => some (r16, σ17)) else if x2 = 1 then bs (fX12_keepsFrom σ1 x1 v6 x3) (fun r13 σ14 => some (r13, σ14)) else if x2 = 2 then bs (fX12_movesFrom σ1 x1 v6 x3) (fun r10 σ11 => some (r10, σ11)) else bs (fX12_tellsFrom σ1 x1 v6 x3) (fun r7 σ8 => some (r7, σ8)))))))
noncomputable def fX12_act (σ : S2) (a1 : Int32) (a2 : Int32) (a3 : Int32) : Option (Int32 × S2) := fX12_act_0 σ a1 a2 a3
noncomputable def fX12_trace_0  (σ : S2) (x1 : Int32) : Option Int32 := if x1 < 0 then some ((-1)) else if (σ.1 0 38) ≤ x1 then some ((-1)) else if 24 ≤ x1 then some ((-1)) else ck 24 x1 (nm (σ.1 29 (Int32.toNatClampNeg x1)) (fun v1 => some (v1)))
noncomputable def fX12_trace (σ : S2) (a1 : Int32) : Option Int32 := fX12_trace_0 σ a1
noncomputable def fX12_isShelf_0  (σ : S2) (x0 : Int32) : Option Int32 := bi (fX12_in σ x0 0 5) (fun r1 => zb r1 (some (r1)))
noncomputable def fX12_isShelf (σ : S2) (a0 : Int32) : Option Int32 := fX12_isShelf_0 σ a0
noncomputable def fX12_keep_22  (σ : S2) (x1 : Int32) (x2 : Int32) : Option (Int32 × S2) := ck 6 x1 (nm (ux_wI σ 30 (Int32.toNatClampNeg x1) x2) (fun σ1 => ck 6 x1 (nm (ux_wI σ1 31 (Int32.toNatClampNeg x1) (-1)) (fun σ2 => some (1, σ2)))))
noncomputable def fX12_keep_0  (σ : S2) (x1 : Int32) (x2 : Int32) : Option (Int32 × S2) := bi (fX12_isShelf σ x1) (fun r3 => if r3 = 0 then some ((-1), σ) else if x2 = (-1) then fX12_keep_22 σ x1 x2 else bi (fX12_isKeeper σ x2) (fun r5 => if r5 = 0 then some ((-1), σ) else fX12_keep_22 σ x1 x2))
noncomputable def fX12_keep (σ : S2) (a1 : Int32) (a2 : Int32) : Option (Int32 × S2) := fX12_keep_0 σ a1 a2
noncomputable def fX12_row_55  : Nat → S2 → Int32 → Int32 → Option (Int32 × S2)
  | 0, _, _, _ => none
  | n + 1, σ, x1, x4 => if 60 ≤ x4 then some (1, σ) else ck 360 ((60 * x1) + x4) (nm (ux_wL σ 33 (Int32.toNatClampNeg ((60 * x1) + x4)) 0) (fun σ1 => nm (x4 + 1) (fun v2 => fX12_row_55 n σ1 x1 v2)))
noncomputable def fX12_row_0  (σ : S2) (x1 : Int32) (x2 : Int32) (x3 : Int32) : Option (Int32 × S2) := bi (fX12_isShelf σ x1) (fun r3 => if r3 = 0 then some ((-1), σ) else bi (fX12_in σ x2 0 4) (fun r5 => if r5 = 0 then some ((-1), σ) else if x3 ≤ 60 then if 0 ≤ x3 then ck 6 x1 (nm (ux_wI σ 30 (Int32.toNatClampNeg x1) (-1)) (fun σ7 => ck 6 x1 (nm (ux_wI σ7 31 (Int32.toNatClampNeg x1) x2) (fun σ8 => ck 6 x1 (nm (ux_wI σ8 32 (Int32.toNatClampNeg x1) x3) (fun σ9 => fX12_row_55 FU σ9 x1 0)))))) else some ((-14), σ) else some ((-1), σ)))
noncomputable def fX12_row (σ : S2) (a1 : Int32) (a2 : Int32) (a3 : Int32) : Option (Int32 × S2) := fX12_row_0 σ a1 a2 a3
noncomputable def fX12_barred_0  (σ : S2) (x1 : Int32) (x2 : Int32) : Option Int32 := bi (fX12_isShelf σ x1) (fun r1 => if r1 = 0 then some ((-1)) else ck 6 x1 (nm (σ.1 31 (Int32.toNatClampNeg x1)) (fun v3 => if 0 ≤ v3 then ck 6 x1 (nm (σ.1 32 (Int32.toNatClampNeg x1)) (fun v4 => bi (fX12_in σ x2 0 (v4 - 1)) (fun r5 => if r5 = 0 then some ((-13)) else some (0)))) else ck 6 x1 (nm (σ.1 30 (Int32.toNatClampNeg x1)) (fun v7 => if 0 ≤ v7 then some ((-12)) else some ((-11)))))))
noncomputable def fX12_barred (σ : S2) (a1 : Int32) (a2 : Int32) : Option Int32 := fX12_barred_0 σ a1 a2
noncomputable def fX12_put_92  (σ : S2) (s0 : Int64) (s1 : Int32) : Option (Int32 × S2) := ck 360 s1 (nm (ux_wL σ 33 (Int32.toNatClampNeg s1) s0) (fun σ1 => some (1, σ1)))
noncomputable def fX12_put_0  (σ : S2) (x1 : Int32) (x2 : Int32) (x3 : Int64) : Option (Int32 × S2) := bi (fX12_barred σ x1 x2) (fun r2 => if r2 = 0 then ck 6 x1 (nm (σ.1 31 (Int32.toNatClampNeg x1)) (fun v4 => if v4 = 0 then fX12_put_92 σ (Int32.toInt64 (Int8.toInt32 (Int32.toInt8 (Int64.toInt32 x3)))) ((60 * x1) + x2) else if v4 = 1 then fX12_put_92 σ (Int32.toInt64 (Int16.toInt32 (Int32.toInt16 (Int64.toInt32 x3)))) ((60 * x1) + x2) else if v4 = 2 then fX12_put_92 σ (Int32.toInt64 (Int64.toInt32 x3)) ((60 * x1) + x2) else if v4 = 3 then fX12_put_92 σ x3 ((60 * x1) + x2) else if (lg_cmp x3 0) = 0 then fX12_put_92 σ 0 ((60 * x1) + x2) else fX12_put_92 σ 1 ((60 * x1) + x2))) else some (r2, σ))
noncomputable def fX12_put (σ : S2) (a1 : Int32) (a2 : Int32) (a3 : Int64) : Option (Int32 × S2) := fX12_put_0 σ a1 a2 a3
noncomputable def fX12_element_0  (σ : S2) (x1 : Int32) (x2 : Int32) : Option Int64 := bi (fX12_barred σ x1 x2) (fun r1 => if r1 = 0 then ck 360 ((60 * x1) + x2) (nm (σ.2 33 (Int32.toNatClampNeg ((60 * x1) + x2))) (fun v3 => some (v3))) else some ((-9223372036854775808)))
noncomputable def fX12_element (σ : S2) (a1 : Int32) (a2 : Int32) : Option Int64 := fX12_element_0 σ a1 a2
noncomputable def fX12_shift_193 (k167 : S2 → Int32 → Int32 → Int32 → Int32 → Option (Int32 × S2)) (σ : S2) (x5 : Int32) (x6 : Int32) (x7 : Int32) (x8 : Int32) (s0 : Int32) : Option (Int32 × S2) := ck 360 (x6 + s0) (nm (σ.2 33 (Int32.toNatClampNeg (x6 + s0))) (fun v1 => ck 360 (x7 + s0) (nm (ux_wL σ 33 (Int32.toNatClampNeg (x7 + s0)) v1) (fun σ2 => nm (x8 + 1) (fun v3 => k167 σ2 x5 x6 x7 v3)))))
noncomputable def fX12_shift_167  : Nat → S2 → Int32 → Int32 → Int32 → Int32 → Option (Int32 × S2)
  | 0, _, _, _, _, _ => none
  | n + 1, σ, x5, x6, x7, x8 => if x5 ≤ x8 then some (x5, σ) else if x7 ≤ x6 then fX12_shift_193 (fX12_shift_167 n) σ x5 x6 x7 x8 x8 else fX12_shift_193 (fX12_shift_167 n) σ x5 x6 x7 x8 ((x5 - 1) - x8)
noncomputable def fX12_shift_55  (σ : S2) (x1 : Int32) (x2 : Int32) (x3 : Int32) (x4 : Int32) (x5 : Int32) : Option (Int32 × S2) := ck 6 x1 (nm (σ.1 31 (Int32.toNatClampNeg x1)) (fun v4 => if v4 < 0 then some ((-12), σ) else ck 6 x1 (nm (σ.1 31 (Int32.toNatClampNeg x1)) (fun v5 => ck 6 x3 (nm (σ.1 31 (Int32.toNatClampNeg x3)) (fun v6 => if v5 = v6 then if x5 < 0 then some ((-13), σ) else if x2 < 0 then some ((-13), σ) else if x4 < 0 then some ((-13), σ) else ck 6 x1 (nm (σ.1 32 (Int32.toNatClampNeg x1)) (fun v7 => if v7 < x2 then some ((-13), σ) else ck 6 x3 (nm (σ.1 32 (Int32.toNatClampNeg x3)) (fun v8 => if v8 < x4 then some ((-13), σ) else ck 6 x1 (nm (σ.1 32 (Int32.toNatClampNeg x1)) (fun v9 => if (v9 - x2) < x5 then some ((-13), σ) else ck 6 x3 (nm (σ.1 32 (Int32.toNatClampNeg x3)) (fun v10 => if x5 ≤ (v10 - x4) then nm ((60 * x1) + x2) (fun v11 => nm ((60 * x3) + x4) (fun v12 => fX12_shift_167 FU σ x5 v11 v12 0)) else some ((-13), σ))))))))) else some ((-12), σ)))))))
noncomputable def fX12_shift_34  (σ : S2) (x1 : Int32) (x2 : Int32) (x3 : Int32) (x4 : Int32) (x5 : Int32) : Option (Int32 × S2) := ck 6 x3 (nm (σ.1 31 (Int32.toNatClampNeg x3)) (fun v13 => if 0 ≤ v13 then fX12_shift_55 σ x1 x2 x3 x4 x5 else ck 6 x3 (nm (σ.1 30 (Int32.toNatClampNeg x3)) (fun v14 => if 0 ≤ v14 then fX12_shift_55 σ x1 x2 x3 x4 x5 else some ((-11), σ)))))
noncomputable def fX12_shift_0  (σ : S2) (x1 : Int32) (x2 : Int32) (x3 : Int32) (x4 : Int32) (x5 : Int32) : Option (Int32 × S2) := bi (fX12_isShelf σ x1) (fun r15 => if r15 = 0 then some ((-1), σ) else bi (fX12_isShelf σ x3) (fun r17 => if r17 = 0 then some ((-1), σ) else ck 6 x1 (nm (σ.1 31 (Int32.toNatClampNeg x1)) (fun v19 => if 0 ≤ v19 then fX12_shift_34 σ x1 x2 x3 x4 x5 else ck 6 x1 (nm (σ.1 30 (Int32.toNatClampNeg x1)) (fun v20 => if v20 < 0 then some ((-11), σ) else fX12_shift_34 σ x1 x2 x3 x4 x5))))))
noncomputable def fX12_shift (σ : S2) (a1 : Int32) (a2 : Int32) (a3 : Int32) (a4 : Int32) (a5 : Int32) : Option (Int32 × S2) := fX12_shift_0 σ a1 a2 a3 a4 a5
noncomputable def fX12_taken_84  (σ : S2) (x3 : Int32) : Option Int32 := some (x3)
noncomputable def fX12_taken_40  (σ : S2) (x1 : Int32) (x2 : Int32) : Option Int32 := ck 6 x1 (nm (σ.1 30 (Int32.toNatClampNeg x1)) (fun v1 => if 0 ≤ v1 then ck 6 x1 (nm (σ.1 30 (Int32.toNatClampNeg x1)) (fun v2 => ck 12 v2 (nm (σ.1 5 (Int32.toNatClampNeg v2)) (fun v3 => if x2 = 0 then fX12_taken_84 σ v3 else if x2 = v3 then fX12_taken_84 σ v3 else if x2 = 1 then if v3 = 6 then fX12_taken_84 σ v3 else some ((-12)) else some ((-12)))))) else some ((-12))))
noncomputable def fX12_taken_0  (σ : S2) (x1 : Int32) (x2 : Int32) : Option Int32 := bi (fX12_isShelf σ x1) (fun r4 => if r4 = 0 then some ((-1)) else bi (fX12_in σ x2 0 6) (fun r6 => if r6 = 0 then some ((-1)) else ck 6 x1 (nm (σ.1 31 (Int32.toNatClampNeg x1)) (fun v8 => if 0 ≤ v8 then fX12_taken_40 σ x1 x2 else ck 6 x1 (nm (σ.1 30 (Int32.toNatClampNeg x1)) (fun v9 => if 0 ≤ v9 then fX12_taken_40 σ x1 x2 else some ((-11))))))))
noncomputable def fX12_taken (σ : S2) (a1 : Int32) (a2 : Int32) : Option Int32 := fX12_taken_0 σ a1 a2
noncomputable def fX12_names_278 (k82 : S2 → Int32 → Int32 → Int32 → Int32 → Int32 → Int32 → Int32 → Option (Int32 × S2)) (σ : S2) (x1 : Int32) (x3 : Int32) (x4 : Int32) (x6 : Int32) (x7 : Int32) (x8 : Int32) (s0 : Int32) (s1 : Int32) : Option (Int32 × S2) := nm (s1 + s0) (fun v1 => nm (x8 + 1) (fun v2 => k82 σ x1 x3 x4 v1 x6 x7 v2))
noncomputable def fX12_names_263 (k82 : S2 → Int32 → Int32 → Int32 → Int32 → Int32 → Int32 → Int32 → Option (Int32 × S2)) (σ : S2) (x1 : Int32) (x3 : Int32) (x4 : Int32) (x5 : Int32) (x6 : Int32) (x7 : Int32) (x8 : Int32) (x9 : Int32) : Option (Int32 × S2) := if x7 = 0 then fX12_names_278 k82 σ x1 x3 x4 x6 x7 x8 0 x5 else fX12_names_278 k82 σ x1 x3 x4 x6 x7 x8 (1 + x9) x5
noncomputable def fX12_names_242 (k82 : S2 → Int32 → Int32 → Int32 → Int32 → Int32 → Int32 → Int32 → Option (Int32 × S2)) (σ : S2) (x1 : Int32) (x3 : Int32) (x4 : Int32) (x5 : Int32) (x6 : Int32) (x8 : Int32) (x9 : Int32) (x10 : Int32) (s0 : Int32) : Option (Int32 × S2) := if s0 = 0 then fX12_names_263 k82 σ x1 x3 x4 x5 x6 s0 x8 x9 else if x10 = 0 then fX12_names_263 k82 σ x1 x3 x4 x5 x6 s0 x8 x9 else bs (fX12_comesName σ x9) (fun r3 σ4 => nm (x6 + 1) (fun v6 => fX12_names_263 k82 σ4 x1 x3 x4 x5 v6 s0 x8 x9))
noncomputable def fX12_names_241 (k82 : S2 → Int32 → Int32 → Int32 → Int32 → Int32 → Int32 → Int32 → Option (Int32 × S2)) (σ : S2) (x1 : Int32) (x3 : Int32) (x4 : Int32) (x5 : Int32) (x6 : Int32) (x8 : Int32) (x9 : Int32) (x10 : Int32) : Option (Int32 × S2) := fX12_names_242 k82 σ x1 x3 x4 x5 x6 x8 x9 x10 0
noncomputable def fX12_names_237 (k82 : S2 → Int32 → Int32 → Int32 → Int32 → Int32 → Int32 → Int32 → Option (Int32 × S2)) (σ : S2) (x1 : Int32) (x3 : Int32) (x4 : Int32) (x5 : Int32) (x6 : Int32) (x8 : Int32) (x9 : Int32) (x10 : Int32) : Option (Int32 × S2) := fX12_names_242 k82 σ x1 x3 x4 x5 x6 x8 x9 x10 1
noncomputable def fX12_names_216 (k82 : S2 → Int32 → Int32 → Int32 → Int32 → Int32 → Int32 → Int32 → Option (Int32 × S2)) (σ : S2) (x1 : Int32) (x3 : Int32) (x4 : Int32) (x5 : Int32) (x6 : Int32) (x7 : Int32) (x8 : Int32) (x9 : Int32) (s0 : Int32) : Option (Int32 × S2) := if x7 = 0 then fX12_names_241 k82 σ x1 x3 x4 x5 x6 x8 x9 s0 else if s0 = 0 then fX12_names_237 k82 σ x1 x3 x4 x5 x6 x8 x9 s0 else if (σ.1 0 0) = 40 then fX12_names_241 k82 σ x1 x3 x4 x5 x6 x8 x9 s0 else fX12_names_237 k82 σ x1 x3 x4 x5 x6 x8 x9 s0
noncomputable def fX12_names_215 (k82 : S2 → Int32 → Int32 → Int32 → Int32 → Int32 → Int32 → Int32 → Option (Int32 × S2)) (σ : S2) (x1 : Int32) (x3 : Int32) (x4 : Int32) (x5 : Int32) (x6 : Int32) (x7 : Int32) (x8 : Int32) (x9 : Int32) : Option (Int32 × S2) := fX12_names_216 k82 σ x1 x3 x4 x5 x6 x7 x8 x9 0
noncomputable def fX12_names_197 (k82 : S2 → Int32 → Int32 → Int32 → Int32 → Int32 → Int32 → Int32 → Option (Int32 × S2)) (σ : S2) (x1 : Int32) (x3 : Int32) (x4 : Int32) (x5 : Int32) (x6 : Int32) (x7 : Int32) (x8 : Int32) (x9 : Int32) : Option (Int32 × S2) := if x7 = 0 then fX12_names_215 k82 σ x1 x3 x4 x5 x6 x7 x8 x9 else bi (fX12_found σ x9) (fun r7 => if 0 ≤ r7 then fX12_names_215 k82 σ x1 x3 x4 x5 x6 x7 x8 x9 else fX12_names_216 k82 σ x1 x3 x4 x5 x6 x7 x8 x9 1)
noncomputable def fX12_names_150 (k82 : S2 → Int32 → Int32 → Int32 → Int32 → Int32 → Int32 → Int32 → Option (Int32 × S2)) : Nat → S2 → Int32 → Int32 → Int32 → Int32 → Int32 → Int32 → Int32 → Int32 → Int32 → Option (Int32 × S2)
  | 0, _, _, _, _, _, _, _, _, _, _ => none
  | n + 1, σ, x1, x3, x4, x5, x6, x7, x8, x9, x10 => if x9 ≤ x10 then fX12_names_197 k82 σ x1 x3 x4 x5 x6 x7 x8 x9 else if x7 = 0 then fX12_names_197 k82 σ x1 x3 x4 x5 x6 x7 x8 x9 else ck 360 ((((60 * x1) + x5) + 1) + x10) (nm (σ.2 33 (Int32.toNatClampNeg ((((60 * x1) + x5) + 1) + x10))) (fun v9 => ck 6 x10 (nm (ux_wI σ 34 (Int32.toNatClampNeg x10) ((Int64.toInt32 v9) &&& 255)) (fun σ10 => nm (x10 + 1) (fun v11 => fX12_names_150 k82 n σ10 x1 x3 x4 x5 x6 x7 x8 x9 v11)))))
noncomputable def fX12_names_145 (k82 : S2 → Int32 → Int32 → Int32 → Int32 → Int32 → Int32 → Int32 → Option (Int32 × S2)) (σ : S2) (x1 : Int32) (x3 : Int32) (x4 : Int32) (x5 : Int32) (x6 : Int32) (x8 : Int32) (x9 : Int32) (s0 : Int32) : Option (Int32 × S2) := fX12_names_150 k82 FU σ x1 x3 x4 x5 x6 s0 x8 x9 0
noncomputable def fX12_names_144 (k82 : S2 → Int32 → Int32 → Int32 → Int32 → Int32 → Int32 → Int32 → Option (Int32 × S2)) (σ : S2) (x1 : Int32) (x3 : Int32) (x4 : Int32) (x5 : Int32) (x6 : Int32) (x8 : Int32) (x9 : Int32) : Option (Int32 × S2) := fX12_names_145 k82 σ x1 x3 x4 x5 x6 x8 x9 0
noncomputable def fX12_names_117 (k82 : S2 → Int32 → Int32 → Int32 → Int32 → Int32 → Int32 → Int32 → Option (Int32 × S2)) (σ : S2) (x1 : Int32) (x3 : Int32) (x4 : Int32) (x5 : Int32) (x6 : Int32) (x8 : Int32) (s0 : Int32) : Option (Int32 × S2) := bi (fX12_in σ s0 1 6) (fun r12 => if r12 = 0 then fX12_names_144 k82 σ x1 x3 x4 x5 x6 x8 s0 else if x4 ≤ (x5 + s0) then fX12_names_144 k82 σ x1 x3 x4 x5 x6 x8 s0 else fX12_names_145 k82 σ x1 x3 x4 x5 x6 x8 s0 1)
noncomputable def fX12_names_82  : Nat → S2 → Int32 → Int32 → Int32 → Int32 → Int32 → Int32 → Int32 → Option (Int32 × S2)
  | 0, _, _, _, _, _, _, _, _ => none
  | n + 1, σ, x1, x3, x4, x5, x6, x7, x8 => if x3 ≤ x8 then some (x6, σ) else if x7 = 0 then some (x6, σ) else if x4 ≤ x5 then fX12_names_117 (fX12_names_82 n) σ x1 x3 x4 x5 x6 x8 0 else ck 360 ((60 * x1) + x5) (nm (σ.2 33 (Int32.toNatClampNeg ((60 * x1) + x5))) (fun v14 => fX12_names_117 (fX12_names_82 n) σ x1 x3 x4 x5 x6 x8 (Int64.toInt32 v14)))
noncomputable def fX12_names_71  (σ : S2) (x1 : Int32) (x3 : Int32) (x4 : Int32) (s0 : Int32) : Option (Int32 × S2) := fX12_names_82 FU σ x1 x3 x4 s0 0 1 0
noncomputable def fX12_names_59  (σ : S2) (x1 : Int32) (x2 : Int32) (x3 : Int32) (s0 : Int32) : Option (Int32 × S2) := if 0 ≤ x2 then fX12_names_71 σ x1 x3 s0 x2 else fX12_names_71 σ x1 x3 s0 s0
noncomputable def fX12_names_0  (σ : S2) (x1 : Int32) (x2 : Int32) (x3 : Int32) : Option (Int32 × S2) := bi (fX12_isShelf σ x1) (fun r15 => if r15 = 0 then some ((-1), σ) else bi (fX12_in σ x3 1 20) (fun r17 => if r17 = 0 then some ((-1), σ) else ck 6 x1 (nm (σ.1 30 (Int32.toNatClampNeg x1)) (fun v19 => if 0 ≤ v19 then some ((-12), σ) else ck 6 x1 (nm (σ.1 31 (Int32.toNatClampNeg x1)) (fun v20 => if v20 ≤ 0 then ck 6 x1 (nm (σ.1 31 (Int32.toNatClampNeg x1)) (fun v21 => if v21 = 0 then ck 6 x1 (nm (σ.1 32 (Int32.toNatClampNeg x1)) (fun v22 => fX12_names_59 σ x1 x2 x3 v22)) else fX12_names_59 σ x1 x2 x3 0)) else some ((-12), σ)))))))
noncomputable def fX12_names (σ : S2) (a1 : Int32) (a2 : Int32) (a3 : Int32) : Option (Int32 × S2) := fX12_names_0 σ a1 a2 a3
noncomputable def fX12_count_91 (k70 : S2 → Int32 → Int32 → Int32 → Option Int32) (σ : S2) (x1 : Int32) (x3 : Int32) (s0 : Int32) (s1 : Int32) (s3 : Int32) : Option Int32 := bi (fX12_many σ s1 s0) (fun r1 => nm (s3 + r1) (fun v3 => nm (x3 + 1) (fun v4 => k70 σ x1 v3 v4)))
noncomputable def fX12_count_70  : Nat → S2 → Int32 → Int32 → Int32 → Option Int32
  | 0, _, _, _, _ => none
  | n + 1, σ, x1, x2, x3 => if (σ.1 0 3) ≤ x3 then some (x2) else if x1 = 4 then fX12_count_91 (fX12_count_70 n) σ x1 x3 1 x3 x2 else fX12_count_91 (fX12_count_70 n) σ x1 x3 0 x3 x2
noncomputable def fX12_count_0  (σ : S2) (x1 : Int32) : Option Int32 := if x1 = 0 then some (σ.1 0 0) else if x1 = 1 then some (σ.1 0 3) else if x1 = 2 then some (σ.1 0 9) else if x1 = 3 then some (σ.1 0 22) else if x1 = 4 then fX12_count_70 FU σ x1 0 0 else if x1 = 5 then fX12_count_70 FU σ x1 0 0 else if x1 = 6 then some (σ.1 0 29) else if x1 = 7 then some (σ.1 0 38) else some ((-1))
noncomputable def fX12_count (σ : S2) (a1 : Int32) : Option Int32 := fX12_count_0 σ a1
end
section
/-! for the class: copies between arrays, tables by block, min and max -/
noncomputable def bt {β : Type} (o : Option (Option Nat)) (K0 : Option β) (K1 : Nat → Option β) : Option β := match o with
  | none => none
  | some none => K0
  | some (some b) => K1 b
theorem btS {β : Type} {a : Option (Option Nat)} {K0 : Option β} {K1 : Nat → Option β} {o : β} (h : bt a K0 K1 = some o) : (a = some none ∧ K0 = some o) ∨ ∃ b, a = some (some b) ∧ K1 b = some o := by
  unfold bt at h
  split at h
  · cases h
  · exact Or.inl ⟨rfl, h⟩
  · exact Or.inr ⟨_, rfl, h⟩
noncomputable abbrev cpOk (n0 n1 : Nat) (sp dp n : Int32) : Prop := ¬ sp < 0 ∧ ¬ dp < 0 ∧ ¬ n < 0 ∧ sp.toNatClampNeg + n.toNatClampNeg ≤ n0 ∧ dp.toNatClampNeg + n.toNatClampNeg ≤ n1
noncomputable def cp {β : Type} (ty : FieldType) (n0 n1 : Nat) (f : Nat → Int32) (sp dp n : Int32) (K : Option β) : Option β := if cpOk n0 n1 sp dp n ∧ ∀ i, i < n.toNatClampNeg → fits ty (.int (f (sp.toNatClampNeg + i))) = true then K else none
noncomputable def cpL {β : Type} (n0 n1 : Nat) (f : Nat → Int64) (sp dp n : Int32) (K : Option β) : Option β := if cpOk n0 n1 sp dp n ∧ ∀ i, i < n.toNatClampNeg → fits .long (.long (f (sp.toNatClampNeg + i))) = true then K else none
theorem cpS {β : Type} {ty : FieldType} {n0 n1 : Nat} {f : Nat → Int32} {sp dp n : Int32} {K : Option β} {o : β} (h : cp ty n0 n1 f sp dp n K = some o) : (cpOk n0 n1 sp dp n ∧ ∀ i, i < n.toNatClampNeg → fits ty (.int (f (sp.toNatClampNeg + i))) = true) ∧ K = some o := by
  unfold cp at h
  split at h
  · exact ⟨by assumption, h⟩
  · cases h
theorem cpLS {β : Type} {n0 n1 : Nat} {f : Nat → Int64} {sp dp n : Int32} {K : Option β} {o : β} (h : cpL n0 n1 f sp dp n K = some o) : (cpOk n0 n1 sp dp n ∧ ∀ i, i < n.toNatClampNeg → fits .long (.long (f (sp.toNatClampNeg + i))) = true) ∧ K = some o := by
  unfold cpL at h
  split at h
  · exact ⟨by assumption, h⟩
  · cases h
section UY
variable {p : Program} {l : Launch} {e : Env} {R : Room} {s : State} {m : MethodId} {args : Array Value} {below : List Frame} {meth : Method} {c : Code} {H : Heap} {locs : List Loc} {cells slots : Nat} {Q : State → Prop} {pc : Nat} {ls : Array Slot} {rest : List Value} {cc : ByteArray}
variable {cell : ux_F} {ad : Nat → Nat} {N : Nat} {σ : S2} {D : va_G} {cl : List vw_C} {tys : List (ClassId × FieldType)} {A : Nat → Prop} {H0 : Heap} {β : Type} {o : β}
theorem ux_copyi (hexec : p.tables.exec = Jvm.exec) (hb : c.code = cc) (hml : c.maxLocals = ls.size) {own : String} {index : Nat} (hown : s.vm.findClass own = some m.cls) (hlink : (Cond.methodLink own index arraycopyName).before args s = true) (hnat : (Cond.native arraycopyName).before args s = true) (hstat : (Cond.static arraycopyName).before args s = true) (hini : (Cond.initialized "java/lang/System").before args s = true)
    (hK : va_K D cl tys s) (hP : va_P D cl (wG cell ad N σ) H) (hD : va_D A (wG cell ad N σ)) (hS : va_S A H0 H locs) (q0 q1 t0 : Nat) (hq0 : q0 < N) (hq1 : q1 < N) {cA : ClassId} {n0 n1 : Nat} {ty : FieldType} (hE0 : cell q0 (σ.1 q0) (σ.2 q0) = .inl (cA, n0, .inl (σ.1 q0))) (hE1 : ∀ g, cell q1 g (σ.2 q1) = .inl (cA, n1, .inl g)) (ht : tys[t0]? = some (cA, ty)) (hprim : refKind ty = false)
    {sp dp n : Int32} {K : S2 → Option β} (h : cp ty n0 n1 (σ.1 q0) sp dp n (nm (ux_I σ q1 (va_cpy (σ.1 q0) (σ.1 q1) sp.toNatClampNeg dp.toNatClampNeg n.toNatClampNeg)) K) = some o)
    (hframes : 1 ≤ R.frames) (hlocals : (rest.map fun v => v.category).sum + (nativeFrameWords "java/lang/System" "arraycopy" 5 + 11) ≤ R.locals) (hdg : decode cc pc = .ok (.invokestatic index, 3))
    (kk : ∀ (σ1 : S2) (H1 : Heap) (locs1 : List Loc), K σ1 = some o → va_P D cl (wG cell ad N σ1) H1 → va_D A (wG cell ad N σ1) → va_S A H0 H1 locs1 → W p l e R s m args below meth c H1 locs1 cells slots Q (F0 m (pc + 3) ls rest)) : W p l e R s m args below meth c H locs cells slots Q (F0 m pc ls (.int n :: .int dp :: .ref (ad q1) :: .int sp :: .ref (ad q0) :: rest)) := by
  obtain ⟨⟨⟨h1, h2, h3, h4, h5⟩, hfit⟩, h⟩ := cpS h
  refine va_copyi hexec hb hml hown hlink hnat hstat hini hK hP hD hS q0 q1 t0 t0 (wG_of hq0 hE0) (wG_of hq1 (hE1 _)) ht ht hprim h1 h2 h3 h4 h5 hfit hframes hlocals hdg fun H1 locs1 hP hD hS => ?_
  rw [wG_setI (hE1 _)] at hP hD
  exact kk _ H1 locs1 h hP hD hS
theorem ux_copyl (hexec : p.tables.exec = Jvm.exec) (hb : c.code = cc) (hml : c.maxLocals = ls.size) {own : String} {index : Nat} (hown : s.vm.findClass own = some m.cls) (hlink : (Cond.methodLink own index arraycopyName).before args s = true) (hnat : (Cond.native arraycopyName).before args s = true) (hstat : (Cond.static arraycopyName).before args s = true) (hini : (Cond.initialized "java/lang/System").before args s = true)
    (hK : va_K D cl tys s) (hP : va_P D cl (wG cell ad N σ) H) (hD : va_D A (wG cell ad N σ)) (hS : va_S A H0 H locs) (q0 q1 t0 : Nat) (hq0 : q0 < N) (hq1 : q1 < N) {cA : ClassId} {n0 n1 : Nat} (hE0 : cell q0 (σ.1 q0) (σ.2 q0) = .inl (cA, n0, .inr (.inl (σ.2 q0)))) (hE1 : ∀ g, cell q1 (σ.1 q1) g = .inl (cA, n1, .inr (.inl g))) (ht : tys[t0]? = some (cA, .long))
    {sp dp n : Int32} {K : S2 → Option β} (h : cpL n0 n1 (σ.2 q0) sp dp n (nm (ux_L σ q1 (va_cpy (σ.2 q0) (σ.2 q1) sp.toNatClampNeg dp.toNatClampNeg n.toNatClampNeg)) K) = some o)
    (hframes : 1 ≤ R.frames) (hlocals : (rest.map fun v => v.category).sum + (nativeFrameWords "java/lang/System" "arraycopy" 5 + 11) ≤ R.locals) (hdg : decode cc pc = .ok (.invokestatic index, 3))
    (kk : ∀ (σ1 : S2) (H1 : Heap) (locs1 : List Loc), K σ1 = some o → va_P D cl (wG cell ad N σ1) H1 → va_D A (wG cell ad N σ1) → va_S A H0 H1 locs1 → W p l e R s m args below meth c H1 locs1 cells slots Q (F0 m (pc + 3) ls rest)) : W p l e R s m args below meth c H locs cells slots Q (F0 m pc ls (.int n :: .int dp :: .ref (ad q1) :: .int sp :: .ref (ad q0) :: rest)) := by
  obtain ⟨⟨⟨h1, h2, h3, h4, h5⟩, hfit⟩, h⟩ := cpLS h
  refine va_copyl hexec hb hml hown hlink hnat hstat hini hK hP hD hS q0 q1 t0 t0 (wG_of hq0 hE0) (wG_of hq1 (hE1 _)) ht ht rfl h1 h2 h3 h4 h5 hfit hframes hlocals hdg fun H1 locs1 hP hD hS => ?_
  rw [wG_setL (hE1 _)] at hP hD
  exact kk _ H1 locs1 h hP hD hS
theorem ux_putV (hexec : p.tables.exec = Jvm.exec) (hb : c.code = cc) {own ref C : String} {T : u_T} {M ci index : Nat} {Ts : List Cond} (hts : ∀ w ∈ Ts, w.before args s = true) (hin : ∀ w ∈ u_ws C T M, w ∈ Ts) (ty0 : Nat → FieldType) (hty : ∀ k, k < M → parseFieldDescriptor (T k).2.2.1 = some (ty0 k)) (hnm : ∀ a, a < M → ∀ b, b < M → a ≠ b → (T a).2.1 ≠ (T b).2.1) (hown : s.vm.findClass own = some m.cls) (hK : va_K D cl tys s) (hP : va_P D cl (wG cell ad N σ) H) (hD : va_D A (wG cell ad N σ)) (hS : va_S A H0 H locs) (q0 : Nat) (hk0 : q0 < N) {fs : List Value} (he : cell q0 (σ.1 q0) (σ.2 q0) = .inr (ci, fs)) (hc : cl[ci]? = some (C, T, M)) (k : Nat) (hk : k < M) (hlink : (Cond.fieldLink own index ref (T k).2.1 (T k).2.2.1).before args s = true) (hsame : ∀ x, s.fieldFound? (T k).1 (T k).2.1 (T k).2.2.1 = some x → s.fieldFound? ref (T k).2.1 (T k).2.2.1 = some x) (hfin : (T k).2.2.2 = false) {ty : FieldType} {v : Value} {g9 : Nat → Int32} (hd : parseFieldDescriptor (T k).2.2.1 = some ty) (hn : narrow ty v = v) (hfit : fits ty v = true) (hl : k < fs.length) (hset : cell q0 g9 (σ.2 q0) = .inr (ci, fs.set k v)) {K : S2 → Option β} (h : nm (ux_I σ q0 g9) K = some o)
    (hdg : decode cc pc = .ok (.putfield index, 3)) (kk : ∀ (σ1 : S2) (H1 : Heap) (locs1 : List Loc), K σ1 = some o → va_P D cl (wG cell ad N σ1) H1 → va_D A (wG cell ad N σ1) → va_S A H0 H1 locs1 → W p l e R s m args below meth c H1 locs1 cells slots Q (F0 m (pc + 3) ls rest)) : W p l e R s m args below meth c H locs cells slots Q (F0 m pc ls (v :: .ref (ad q0) :: rest)) := by
  refine va_put hexec hb hts hin ty0 hty hnm hown hK hP hD hS q0 (wG_of hk0 he) hc k hk hlink hsame hfin hd hn hfit hl hdg fun H1 locs1 hP hD hS => ?_
  rw [wG_setI hset] at hP hD
  exact kk _ H1 locs1 h hP hD hS
theorem vp_lt {i : Int32} {n : Nat} (h : vp_in i n) : i.toNatClampNeg < n := Nat.not_le.mp fun q => h (Or.inr q)
end UY
/-! the static row KIND_ABOVE -/
noncomputable def kaI (j : Nat) : Int32 := match j with | 0 => (-1) | 6 => 1 | _ => 0
noncomputable def kaP (t : Nat) (A : Nat → Prop) (U : State) : Prop := va_Z "SeatsRound" "KIND_ABOVE" "[I" (.ref t) A U U.heap ∧ va_T .int t 7 (fun j => .int (kaI j)) A U U.heap
theorem wp_blindK {av : List Value} {D : va_G} {cy : Nat → ClassId} {ws : va_W} {sz t : Nat} {B : Nat → Prop} : FrameBlind (va_Pc av (fun U => wPre D cy ws sz U ∧ kaP t B U)) := fun a U g mk q => by
  obtain ⟨q0, ⟨q1, qP, qK, qD, qN⟩, qZ, qT⟩ := q
  exact ⟨q0, ⟨q1, qP, va_K.moved (u := U) (U := U.calling g mk a) (Vm.Alike.refl U.vm) qK, qD, NW.same (u := U) (U := U.calling g mk a) rfl qN⟩, va_Z.moved (u := U) (U := U.calling g mk a) (Vm.Alike.refl U.vm) qZ, va_T.moved (u := U) (U := U.calling g mk a) (Vm.Alike.refl U.vm) qT⟩
theorem fr_A {A : Nat → Prop} {ws : va_W} {H0 H : Heap} {locs : List Loc} (hD : va_D A ws) (hS : va_S A H0 H locs) (hA : ∀ q : Nat, H0.size ≤ q → A q) : ∀ q, va_A ws H.size q → A q := fun q h => h.elim (fun ⟨k, e, hk⟩ => hD.2 k _ hk) (fun h => hA q (Nat.le_trans hS.1 h))
theorem ka_at {t : Nat} {A B : Nat → Prop} {s U : State} {H : Heap} {locs : List Loc} (hZ : va_Z "SeatsRound" "KIND_ABOVE" "[I" (.ref t) A s s.heap) (hT : va_T .int t 7 (fun j => .int (kaI j)) A s s.heap) (hS : va_S A s.heap H locs) (hF : ∀ q, B q → A q) (hU : U.heap = H) (hW : s.vm.Alike U.vm) : kaP t B U := by
  refine ⟨va_Z.moved hW ?_, va_T.moved hW ?_⟩
  · rw [hU]; exact (hZ.kept (H1 := H) hS.2.1).narrow hF
  · rw [hU]; exact (hT.kept (H1 := H) hS.2.1).narrow hF
theorem wp_SK {s : State} {H : Heap} {As : List Value} {D : va_G} {cy : Nat → ClassId} {ws : va_W} {A B : Nat → Prop} {t : Nat} {locs : List Loc} (hK : va_K D vwCl (tyl cy) s) (hN : NW s) (hP : va_P D vwCl ws H) (hD : va_D A ws) (hZ : va_Z "SeatsRound" "KIND_ABOVE" "[I" (.ref t) A s s.heap) (hT : va_T .int t 7 (fun j => .int (kaI j)) A s s.heap) (hS : va_S A s.heap H locs) (hF : ∀ q, B q → A q) : PreS s H (va_Pc As (fun U => wPre D cy ws H.size U ∧ kaP t B U)) As :=
  ⟨wp_blindK, fun U hU hW => ⟨rfl, ⟨by rw [hU], by rw [hU]; exact hP, va_K.moved hW.alike hK, hD.weaken (fun _ _ _ _ => trivial), hN.warm hW⟩, ka_at hZ hT hS hF hU hW.alike⟩⟩
theorem wp_VK {s : State} {H : Heap} {C : String} {b : Addr} {As : List Value} {D : va_G} {cy : Nat → ClassId} {ws : va_W} {A A0 B : Nat → Prop} {t : Nat} {locs : List Loc} (hK : va_K D vwCl (tyl cy) s) (hN : NW s) (hP : va_P D vwCl ws H) (hD : va_D A ws) (hr : ∃ cellB : Cell, H[b]? = some cellB ∧ cellB.vm.isStatics = false ∧ s.vm.findClass C = some cellB.cls) (hZ : va_Z "SeatsRound" "KIND_ABOVE" "[I" (.ref t) A0 s s.heap) (hT : va_T .int t 7 (fun j => .int (kaI j)) A0 s s.heap) (hS : va_S A0 s.heap H locs) (hF : ∀ q, B q → A0 q) : PreV s H C b (va_Pc (.ref b :: As) (fun U => wPre D cy ws H.size U ∧ kaP t B U)) As :=
  ⟨wp_blindK, hr, fun U hU hW => ⟨rfl, ⟨by rw [hU], by rw [hU]; exact hP, va_K.moved hW.alike hK, hD.weaken (fun _ _ _ _ => trivial), hN.warm hW⟩, ka_at hZ hT hS hF hU hW.alike⟩⟩
section UT
variable {p : Program} {l : Launch} {e : Env} {R : Room} {s : State} {m : MethodId} {args : Array Value} {below : List Frame} {meth : Method} {c : Code} {H : Heap} {locs : List Loc} {cells slots : Nat} {Q : State → Prop} {pc : Nat} {ls : Array Slot} {rest : List Value} {cc : ByteArray} {A : Nat → Prop} {β : Type} {o : β}
theorem ux_ti (hexec : p.tables.exec = Jvm.exec) (hb : c.code = cc) {t : Nat} (hT : va_T .int t 7 (fun j => .int (kaI j)) A s s.heap) (hS : va_S A s.heap H locs) {i : Int32} {K : Int32 → Option β} (h : ck 7 i (nm (kaI (Int32.toNatClampNeg i)) K) = some o) (hdg : decode cc pc = .ok (.iaload, 1)) (kk : ∀ v : Int32, K v = some o → W p l e R s m args below meth c H locs cells slots Q (F0 m (pc + 1) ls (.int v :: rest))) : W p l e R s m args below meth c H locs cells slots Q (F0 m pc ls (.int i :: .ref t :: rest)) := by
  obtain ⟨hi, h⟩ := ckS h
  exact va_ti hexec hb hT hS hi rfl hdg (kk _ h)
end UT
end
section
noncomputable def fX11_tableAt (τ : Nat) (σ : S2) (x : Int32) : Option (Option Nat) := if x < 0 then some none else if σ.1 0 6 ≤ x then some none else ck 10 x (some (if x.toNatClampNeg < τ then some (x.toNatClampNeg + 1) else none))
noncomputable def fX0_begin_19 (τ : Nat)  (σ : S2)  : Option (Unit × S2) := nm (ux_wI σ 35 1 ((σ.1 35 1) + 1)) (fun σ1 => some ((), σ1))
noncomputable def fX0_begin_0 (τ : Nat)  (σ : S2) (x1 : Int32) : Option (Unit × S2) := if 24 ≤ (σ.1 35 1) then fX0_begin_19 τ σ else ck 24 (σ.1 35 1) (nm (ux_wI σ 36 (Int32.toNatClampNeg (σ.1 35 1)) x1) (fun σ2 => fX0_begin_19 τ σ2))
noncomputable def fX0_begin (τ : Nat) (σ : S2) (a1 : Int32) : Option (Unit × S2) := fX0_begin_0 τ σ a1
noncomputable def fX0_findsFrom_0 (τ : Nat) (qX0_findsFrom : S2 → Int32 → Int32 → Option (Int32 × S2))  (σ : S2) (x1 : Int32) (x2 : Int32) : Option (Int32 × S2) := if x1 = 1 then bs (fX0_begin τ σ 20) (fun r2 σ3 => bs (qX0_findsFrom σ3 0 x2) (fun r5 σ6 => some (r5 + (σ6.1 35 4), σ6))) else if x1 = 5 then bs (fX0_begin τ σ 60) (fun r9 σ10 => bs (qX0_findsFrom σ10 0 (x2 + 1)) (fun r12 σ13 => some (r12, σ13))) else if x1 = 6 then bs (fX0_begin τ σ 71) (fun r16 σ17 => bs (qX0_findsFrom σ17 1 x2) (fun r19 σ20 => some (r19 * 2, σ20))) else bs (fX0_begin τ σ 1) (fun r22 σ23 => some (x2 + (σ23.1 35 3), σ23))
noncomputable def eX0_findsFrom (τ : Nat) (qX0_findsFrom : S2 → Int32 → Int32 → Option (Int32 × S2)) (σ : S2) (a1 : Int32) (a2 : Int32) : Option (Int32 × S2) := fX0_findsFrom_0 τ qX0_findsFrom σ a1 a2
noncomputable def GX0_findsFrom (τ : Nat) : Nat → Nat → S2 → Int32 → Int32 → Option (Int32 × S2)
  | 0, _, _, _, _ => none
  | d + 1, _, σ, a1, a2 => eX0_findsFrom τ (GX0_findsFrom τ d 0) σ a1 a2
noncomputable def fX0_findsFrom (τ : Nat) (σ : S2) (a1 : Int32) (a2 : Int32) : Option (Int32 × S2) := GX0_findsFrom τ 24 0 σ a1 a2
noncomputable def fX0_movesFrom_0 (τ : Nat) (qX0_movesFrom : S2 → Int32 → Int32 → Option (Int32 × S2))  (σ : S2) (x1 : Int32) (x2 : Int32) : Option (Int32 × S2) := if x1 = 2 then bs (fX0_begin τ σ 30) (fun r2 σ3 => bs (qX0_movesFrom σ3 0 x2) (fun r5 σ6 => some (r5 * 3, σ6))) else if x1 = 5 then bs (fX0_begin τ σ 61) (fun r9 σ10 => bs (qX0_movesFrom σ10 0 x2) (fun r12 σ13 => bs (fX0_findsFrom τ σ13 (σ13.1 35 2) 2) (fun r15 σ16 => some (r12 - r15, σ16)))) else bs (fX0_begin τ σ 11) (fun r18 σ19 => some (x2 ^^^ (σ19.1 35 3), σ19))
noncomputable def eX0_movesFrom (τ : Nat) (qX0_movesFrom : S2 → Int32 → Int32 → Option (Int32 × S2)) (σ : S2) (a1 : Int32) (a2 : Int32) : Option (Int32 × S2) := fX0_movesFrom_0 τ qX0_movesFrom σ a1 a2
noncomputable def GX0_movesFrom (τ : Nat) : Nat → Nat → S2 → Int32 → Int32 → Option (Int32 × S2)
  | 0, _, _, _, _ => none
  | d + 1, _, σ, a1, a2 => eX0_movesFrom τ (GX0_movesFrom τ d 0) σ a1 a2
noncomputable def fX0_movesFrom (τ : Nat) (σ : S2) (a1 : Int32) (a2 : Int32) : Option (Int32 × S2) := GX0_movesFrom τ 24 0 σ a1 a2
noncomputable def fX0_keepsFrom_0 (τ : Nat) (qX0_keepsFrom : S2 → Int32 → Int32 → Option (Int32 × S2))  (σ : S2) (x1 : Int32) (x2 : Int32) : Option (Int32 × S2) := if x1 = 3 then bs (fX0_begin τ σ 40) (fun r2 σ3 => bs (qX0_keepsFrom σ3 0 x2) (fun r5 σ6 => some (-r5, σ6))) else if x1 = 6 then bs (fX0_begin τ σ 70) (fun r9 σ10 => bs (qX0_keepsFrom σ10 1 x2) (fun r12 σ13 => bs (fX0_movesFrom τ σ13 1 x2) (fun r15 σ16 => some (r12 + r15, σ16)))) else bs (fX0_begin τ σ 10) (fun r18 σ19 => bs (fX0_findsFrom τ σ19 (σ19.1 35 2) x2) (fun r21 σ22 => some (r21 * 2, σ22)))
noncomputable def eX0_keepsFrom (τ : Nat) (qX0_keepsFrom : S2 → Int32 → Int32 → Option (Int32 × S2)) (σ : S2) (a1 : Int32) (a2 : Int32) : Option (Int32 × S2) := fX0_keepsFrom_0 τ qX0_keepsFrom σ a1 a2
noncomputable def GX0_keepsFrom (τ : Nat) : Nat → Nat → S2 → Int32 → Int32 → Option (Int32 × S2)
  | 0, _, _, _, _ => none
  | d + 1, _, σ, a1, a2 => eX0_keepsFrom τ (GX0_keepsFrom τ d 0) σ a1 a2
noncomputable def fX0_keepsFrom (τ : Nat) (σ : S2) (a1 : Int32) (a2 : Int32) : Option (Int32 × S2) := GX0_keepsFrom τ 24 0 σ a1 a2
noncomputable def fX0_tellsFrom_0 (τ : Nat) (qX0_tellsFrom : S2 → Int32 → Int32 → Option (Int32 × S2))  (σ : S2) (x1 : Int32) (x2 : Int32) : Option (Int32 × S2) := if x1 = 4 then bs (fX0_begin τ σ 50) (fun r10 σ11 => bs (qX0_tellsFrom σ11 0 x2) (fun r13 σ14 => some (r13 ^^^ 9, σ14))) else bs (fX0_begin τ σ 2) (fun r1 σ2 => bs (fX0_keepsFrom τ σ2 (σ2.1 35 2) x2) (fun r4 σ5 => bs (fX0_movesFrom τ σ5 (σ5.1 35 2) 1) (fun r7 σ8 => some (r4 - r7, σ8))))
noncomputable def eX0_tellsFrom (τ : Nat) (qX0_tellsFrom : S2 → Int32 → Int32 → Option (Int32 × S2)) (σ : S2) (a1 : Int32) (a2 : Int32) : Option (Int32 × S2) := fX0_tellsFrom_0 τ qX0_tellsFrom σ a1 a2
noncomputable def GX0_tellsFrom (τ : Nat) : Nat → Nat → S2 → Int32 → Int32 → Option (Int32 × S2)
  | 0, _, _, _, _ => none
  | d + 1, _, σ, a1, a2 => eX0_tellsFrom τ (GX0_tellsFrom τ d 0) σ a1 a2
noncomputable def fX0_tellsFrom (τ : Nat) (σ : S2) (a1 : Int32) (a2 : Int32) : Option (Int32 × S2) := GX0_tellsFrom τ 24 0 σ a1 a2
noncomputable def fX0_run_0 (τ : Nat)  (σ : S2) (x1 : Int32) (x2 : Int32) (x3 : Int32) (x4 : Int32) (x5 : Int32) : Option (Int32 × S2) := nm (ux_wI σ 35 3 x1) (fun σ1 => nm (ux_wI σ1 35 4 x2) (fun σ2 => nm (ux_wI σ2 35 2 x3) (fun σ3 => if x4 = 0 then bs (fX0_findsFrom τ σ3 (σ3.1 35 2) x5) (fun r5 σ6 => some (r5, σ6)) else if x4 = 1 then bs (fX0_keepsFrom τ σ3 (σ3.1 35 2) x5) (fun r9 σ10 => some (r9, σ10)) else if x4 = 2 then bs (fX0_movesFrom τ σ3 (σ3.1 35 2) x5) (fun r13 σ14 => some (r13, σ14)) else if x4 = 3 then bs (fX0_tellsFrom τ σ3 (σ3.1 35 2) x5) (fun r17 σ18 => some (r17, σ18)) else some (0, σ3))))
noncomputable def fX0_run (τ : Nat) (σ : S2) (a1 : Int32) (a2 : Int32) (a3 : Int32) (a4 : Int32) (a5 : Int32) : Option (Int32 × S2) := fX0_run_0 τ σ a1 a2 a3 a4 a5
noncomputable def fX11_strewn_0 (τ : Nat)  (σ : S2) (x0 : Int32) : Option Int32 := dz (1000 : Int32) (some ((UInt32.toInt32 (Int32.toUInt32 ((x0 * 1103515245) + 12345) >>> (Int32.toUInt32 8 &&& Int32.toUInt32 31))) - (UInt32.toInt32 (Int32.toUInt32 ((x0 * 1103515245) + 12345) >>> (Int32.toUInt32 8 &&& Int32.toUInt32 31))) / 1000 * 1000))
noncomputable def fX11_strewn (τ : Nat) (σ : S2) (a0 : Int32) : Option Int32 := fX11_strewn_0 τ σ a0
noncomputable def fX8_sumOf_0 (τ : Nat) (b0 : Nat)  (σ : S2) (x1 : Int32) (x2 : Int32) : Option Int32 := bi (fX11_strewn τ σ (((x2 * 7919) + (x1 * 104729)) + (σ.1 (182 + 6 * b0) 1))) (fun r1 => ck 12 x1 (nm (σ.1 (182 + 6 * b0 + 1) (Int32.toNatClampNeg x1)) (fun v3 => some (r1 * v3))))
noncomputable def fX8_sumOf (τ : Nat) (b0 : Nat) (σ : S2) (a1 : Int32) (a2 : Int32) : Option Int32 := fX8_sumOf_0 τ b0 σ a1 a2
noncomputable def fX1_pickBySums_132 (τ : Nat) (b1 : Nat) (k2 : S2 → Int32 → Int32 → Option (Unit × S2)) (σ : S2) (x2 : Int32) (x3 : Int32) : Option (Unit × S2) := nm (x3 + 1) (fun v1 => k2 σ x2 v1)
noncomputable def fX1_pickBySums_105 (τ : Nat) (b1 : Nat) (k2 : S2 → Int32 → Int32 → Option (Unit × S2)) (σ : S2) (x2 : Int32) (x3 : Int32) (x4 : Int32) (x5 : Int32) : Option (Unit × S2) := ck 12 x5 (nm (ux_wI σ 17 (Int32.toNatClampNeg x5) x4) (fun σ2 => ck 12 x5 (nm (ux_wI σ2 15 (Int32.toNatClampNeg x5) x3) (fun σ3 => nm (ux_wI σ3 14 2 ((σ3.1 14 2) + 1)) (fun σ4 => fX1_pickBySums_132 τ b1 k2 σ4 x2 x3)))))
noncomputable def fX1_pickBySums_42 (τ : Nat) (b1 : Nat) (k2 : S2 → Int32 → Int32 → Option (Unit × S2)) : Nat → S2 → Int32 → Int32 → Int32 → Int32 → Int32 → Option (Unit × S2)
  | 0, _, _, _, _, _, _ => none
  | n + 1, σ, x2, x3, x4, x5, x6 => if x6 ≤ 0 then fX1_pickBySums_105 τ b1 k2 σ x2 x3 x4 x5 else ck 12 (x6 - 1) (nm (σ.1 17 (Int32.toNatClampNeg (x6 - 1))) (fun v5 => if x4 ≤ v5 then fX1_pickBySums_105 τ b1 k2 σ x2 x3 x4 x5 else ck 12 (x6 - 1) (nm (σ.1 17 (Int32.toNatClampNeg (x6 - 1))) (fun v6 => ck 12 x6 (nm (ux_wI σ 17 (Int32.toNatClampNeg x6) v6) (fun σ7 => ck 12 (x6 - 1) (nm (σ7.1 15 (Int32.toNatClampNeg (x6 - 1))) (fun v8 => ck 12 x6 (nm (ux_wI σ7 15 (Int32.toNatClampNeg x6) v8) (fun σ9 => nm (x6 - 1) (fun v10 => nm (x6 + (-1)) (fun v11 => fX1_pickBySums_42 τ b1 k2 n σ9 x2 x3 x4 v10 v11))))))))))))
noncomputable def fX1_pickBySums_2 (τ : Nat) (b1 : Nat)  : Nat → S2 → Int32 → Int32 → Option (Unit × S2)
  | 0, _, _, _ => none
  | n + 1, σ, x2, x3 => if 12 ≤ x3 then nm (ux_wI σ 14 6 (σ.1 (182 + 6 * b1) 0)) (fun σ12 => some ((), σ12)) else if (((σ.1 (182 + 6 * b1) 0) >>> (x3 &&& 31)) &&& 1) = 0 then fX1_pickBySums_132 τ b1 (fX1_pickBySums_2 τ b1 n) σ x2 x3 else bi (fX8_sumOf τ b1 σ x3 x2) (fun r13 => nm (σ.1 14 2) (fun v15 => nm (σ.1 14 2) (fun v16 => fX1_pickBySums_42 τ b1 (fX1_pickBySums_2 τ b1 n) FU σ x2 x3 r13 v15 v16)))
noncomputable def fX1_pickBySums_0 (τ : Nat) (b1 : Nat)  (σ : S2) (x2 : Int32) : Option (Unit × S2) := fX1_pickBySums_2 τ b1 FU σ x2 0
noncomputable def fX1_pickBySums (τ : Nat) (b1 : Nat) (σ : S2) (a2 : Int32) : Option (Unit × S2) := fX1_pickBySums_0 τ b1 σ a2
noncomputable def fX1_isPicked_0 (τ : Nat)  (σ : S2) (x1 : Int32) : Option Int32 := if (((σ.1 14 6) >>> (x1 &&& 31)) &&& 1) = 1 then some (1) else some (0)
noncomputable def fX1_isPicked (τ : Nat) (σ : S2) (a1 : Int32) : Option Int32 := fX1_isPicked_0 τ σ a1
noncomputable def fX1_takePick_0 (τ : Nat)  (σ : S2) (x1 : Int32) : Option (Unit × S2) := if (σ.1 14 2) < 12 then ck 12 (σ.1 14 2) (nm (ux_wI σ 15 (Int32.toNatClampNeg (σ.1 14 2)) x1) (fun σ1 => nm (ux_wI σ1 14 2 ((σ1.1 14 2) + 1)) (fun σ2 => nm (ux_wI σ2 14 6 ((σ2.1 14 6) ||| (1 <<< (x1 &&& 31)))) (fun σ3 => some ((), σ3))))) else some ((), σ)
noncomputable def fX1_takePick (τ : Nat) (σ : S2) (a1 : Int32) : Option (Unit × S2) := fX1_takePick_0 τ σ a1
noncomputable def fX11_placeBehind_0 (τ : Nat)  (σ : S2) (x0 : Int32) : Option Int32 := if 1000 ≤ (x0 + 1) then some (0) else some (x0 + 1)
noncomputable def fX11_placeBehind (τ : Nat) (σ : S2) (a0 : Int32) : Option Int32 := fX11_placeBehind_0 τ σ a0
noncomputable def fX1_pickFirstFrom_5 (τ : Nat) (b1 : Nat)  : Nat → S2 → Int32 → Int32 → Option (Unit × S2)
  | 0, _, _, _ => none
  | n + 1, σ, x3, x4 => if (σ.1 (182 + 6 * b1) 5) ≤ x4 then some ((), σ) else ck 1000 x3 (nm (σ.1 (182 + 6 * b1 + 5) (Int32.toNatClampNeg x3)) (fun v1 => ck 1000 v1 (nm (σ.1 (182 + 6 * b1 + 4) (Int32.toNatClampNeg v1)) (fun v2 => bi (fX1_isPicked τ σ v2) (fun r3 => if r3 = 0 then ck 1000 v1 (nm (σ.1 (182 + 6 * b1 + 4) (Int32.toNatClampNeg v1)) (fun v8 => bs (fX1_takePick τ σ v8) (fun r9 σ10 => some ((), σ10)))) else bi (fX11_placeBehind τ σ v1) (fun r5 => nm (x4 + 1) (fun v7 => fX1_pickFirstFrom_5 τ b1 n σ r5 v7)))))))
noncomputable def fX1_pickFirstFrom_0 (τ : Nat) (b1 : Nat)  (σ : S2) (x2 : Int32) : Option (Unit × S2) := fX1_pickFirstFrom_5 τ b1 FU σ x2 0
noncomputable def fX1_pickFirstFrom (τ : Nat) (b1 : Nat) (σ : S2) (a2 : Int32) : Option (Unit × S2) := fX1_pickFirstFrom_0 τ b1 σ a2
noncomputable def fX1_pickByJumps_2 (τ : Nat) (b1 : Nat)  : Nat → S2 → Int32 → Int32 → Option (Unit × S2)
  | 0, _, _, _ => none
  | n + 1, σ, x2, x3 => if 12 ≤ x3 then some ((), σ) else if (σ.1 14 6) = (σ.1 (182 + 6 * b1) 0) then some ((), σ) else dz (1000 : Int32) (bs (fX1_pickFirstFrom τ b1 σ ((x2 + (333 * x3)) - (x2 + (333 * x3)) / 1000 * 1000)) (fun r2 σ3 => nm (x3 + 1) (fun v5 => fX1_pickByJumps_2 τ b1 n σ3 x2 v5)))
noncomputable def fX1_pickByJumps_0 (τ : Nat) (b1 : Nat)  (σ : S2) (x2 : Int32) : Option (Unit × S2) := fX1_pickByJumps_2 τ b1 FU σ x2 0
noncomputable def fX1_pickByJumps (τ : Nat) (b1 : Nat) (σ : S2) (a2 : Int32) : Option (Unit × S2) := fX1_pickByJumps_0 τ b1 σ a2
noncomputable def fX1_pickRound_55 (τ : Nat) (b1 : Nat) (k5 : S2 → Int32 → Int32 → Option (Unit × S2)) (σ : S2) (x3 : Int32) (x4 : Int32) : Option (Unit × S2) := bi (fX11_placeBehind τ σ x3) (fun r1 => nm (x4 + 1) (fun v3 => k5 σ r1 v3))
noncomputable def fX1_pickRound_5 (τ : Nat) (b1 : Nat)  : Nat → S2 → Int32 → Int32 → Option (Unit × S2)
  | 0, _, _, _ => none
  | n + 1, σ, x3, x4 => if (σ.1 (182 + 6 * b1) 5) ≤ x4 then some ((), σ) else if (σ.1 14 6) = (σ.1 (182 + 6 * b1) 0) then some ((), σ) else ck 1000 x3 (nm (σ.1 (182 + 6 * b1 + 5) (Int32.toNatClampNeg x3)) (fun v4 => ck 1000 v4 (nm (σ.1 (182 + 6 * b1 + 4) (Int32.toNatClampNeg v4)) (fun v5 => bi (fX1_isPicked τ σ v5) (fun r6 => if r6 = 0 then ck 1000 v4 (nm (σ.1 (182 + 6 * b1 + 4) (Int32.toNatClampNeg v4)) (fun v8 => bs (fX1_takePick τ σ v8) (fun r9 σ10 => fX1_pickRound_55 τ b1 (fX1_pickRound_5 τ b1 n) σ10 v4 x4))) else fX1_pickRound_55 τ b1 (fX1_pickRound_5 τ b1 n) σ v4 x4)))))
noncomputable def fX1_pickRound_0 (τ : Nat) (b1 : Nat)  (σ : S2) (x2 : Int32) : Option (Unit × S2) := fX1_pickRound_5 τ b1 FU σ x2 0
noncomputable def fX1_pickRound (τ : Nat) (b1 : Nat) (σ : S2) (a2 : Int32) : Option (Unit × S2) := fX1_pickRound_0 τ b1 σ a2
noncomputable def fX1_pick_0 (τ : Nat) (b1 : Nat)  (σ : S2) (x2 : Int32) : Option (Unit × S2) := nm (ux_wI σ 14 2 0) (fun σ1 => nm (ux_wI σ1 14 6 0) (fun σ2 => if (σ2.1 (182 + 6 * b1) 4) = 1 then bs (fX1_pickBySums τ b1 σ2 x2) (fun r9 σ10 => some ((), σ10)) else if (σ2.1 (182 + 6 * b1) 4) = 2 then bs (fX1_pickByJumps τ b1 σ2 x2) (fun r6 σ7 => some ((), σ7)) else bs (fX1_pickRound τ b1 σ2 x2) (fun r3 σ4 => some ((), σ4))))
noncomputable def fX1_pick (τ : Nat) (b1 : Nat) (σ : S2) (a2 : Int32) : Option (Unit × S2) := fX1_pick_0 τ b1 σ a2
noncomputable def fX1_takeChosen_0 (τ : Nat)  (σ : S2) (x1 : Int32) : Option (Unit × S2) := ck 12 (σ.1 14 3) (nm (ux_wI σ 16 (Int32.toNatClampNeg (σ.1 14 3)) x1) (fun σ1 => nm (ux_wI σ1 14 3 ((σ1.1 14 3) + 1)) (fun σ2 => nm (ux_wI σ2 14 4 ((σ2.1 14 4) ||| (1 <<< (x1 &&& 31)))) (fun σ3 => ck 12 x1 (nm (σ3.1 9 (Int32.toNatClampNeg x1)) (fun v4 => nm (ux_wI σ3 14 5 ((σ3.1 14 5) ||| (1 <<< (v4 &&& 31)))) (fun σ5 => some ((), σ5))))))))
noncomputable def fX1_takeChosen (τ : Nat) (σ : S2) (a1 : Int32) : Option (Unit × S2) := fX1_takeChosen_0 τ σ a1
noncomputable def fX1_isChosen_0 (τ : Nat)  (σ : S2) (x1 : Int32) : Option Int32 := if (((σ.1 14 4) >>> (x1 &&& 31)) &&& 1) = 1 then some (1) else some (0)
noncomputable def fX1_isChosen (τ : Nat) (σ : S2) (a1 : Int32) : Option Int32 := fX1_isChosen_0 τ σ a1
noncomputable def fX1_choose_133 (τ : Nat) (b1 : Nat) (k91 : S2 → Int32 → Option (Unit × S2)) (σ : S2) (x3 : Int32) : Option (Unit × S2) := nm (x3 + 1) (fun v1 => k91 σ v1)
noncomputable def fX1_choose_91 (τ : Nat) (b1 : Nat)  : Nat → S2 → Int32 → Option (Unit × S2)
  | 0, _, _ => none
  | n + 1, σ, x3 => if (σ.1 14 2) ≤ x3 then some ((), σ) else if (σ.1 (182 + 6 * b1) 2) ≤ (σ.1 14 3) then some ((), σ) else ck 12 x3 (nm (σ.1 15 (Int32.toNatClampNeg x3)) (fun v2 => bi (fX1_isChosen τ σ v2) (fun r3 => if r3 = 0 then ck 12 x3 (nm (σ.1 15 (Int32.toNatClampNeg x3)) (fun v5 => bs (fX1_takeChosen τ σ v5) (fun r6 σ7 => fX1_choose_133 τ b1 (fX1_choose_91 τ b1 n) σ7 x3))) else fX1_choose_133 τ b1 (fX1_choose_91 τ b1 n) σ x3)))
noncomputable def fX1_choose_89 (τ : Nat) (b1 : Nat)  (σ : S2)  : Option (Unit × S2) := fX1_choose_91 τ b1 FU σ 0
noncomputable def fX1_choose_83 (τ : Nat) (b1 : Nat) (k23 : S2 → Int32 → Option (Unit × S2)) (σ : S2) (x3 : Int32) : Option (Unit × S2) := nm (x3 + 1) (fun v9 => k23 σ v9)
noncomputable def fX1_choose_23 (τ : Nat) (b1 : Nat)  : Nat → S2 → Int32 → Option (Unit × S2)
  | 0, _, _ => none
  | n + 1, σ, x3 => if (σ.1 14 2) ≤ x3 then fX1_choose_89 τ b1 σ else if (if (σ.1 (182 + 6 * b1) 3) < (σ.1 (182 + 6 * b1) 2) then (σ.1 (182 + 6 * b1) 3) else (σ.1 (182 + 6 * b1) 2)) ≤ (σ.1 14 3) then fX1_choose_89 τ b1 σ else ck 12 x3 (nm (σ.1 15 (Int32.toNatClampNeg x3)) (fun v10 => ck 12 v10 (nm (σ.1 9 (Int32.toNatClampNeg v10)) (fun v11 => if (((σ.1 14 5) >>> (v11 &&& 31)) &&& 1) = 0 then ck 12 x3 (nm (σ.1 15 (Int32.toNatClampNeg x3)) (fun v12 => bs (fX1_takeChosen τ σ v12) (fun r13 σ14 => fX1_choose_83 τ b1 (fX1_choose_23 τ b1 n) σ14 x3))) else fX1_choose_83 τ b1 (fX1_choose_23 τ b1 n) σ x3))))
noncomputable def fX1_choose_0 (τ : Nat) (b1 : Nat)  (σ : S2) (x2 : Int32) : Option (Unit × S2) := bs (fX1_pick τ b1 σ x2) (fun r16 σ17 => nm (ux_wI σ17 14 3 0) (fun σ19 => nm (ux_wI σ19 14 4 0) (fun σ20 => nm (ux_wI σ20 14 5 0) (fun σ21 => fX1_choose_23 τ b1 FU σ21 0))))
noncomputable def fX1_choose (τ : Nat) (b1 : Nat) (σ : S2) (a2 : Int32) : Option (Unit × S2) := fX1_choose_0 τ b1 σ a2
noncomputable def fX2_has_0 (τ : Nat)  (σ : S2) (x1 : Int32) : Option Int32 := if x1 < 0 then some (0) else if (σ.1 7 5) ≤ x1 then some (0) else some (1)
noncomputable def fX2_has (τ : Nat) (σ : S2) (a1 : Int32) : Option Int32 := fX2_has_0 τ σ a1
noncomputable def fX2_add_0 (τ : Nat)  (σ : S2) (x1 : Int32) (x2 : Int32) : Option (Int32 × S2) := ck 12 (σ.1 7 5) (nm (ux_wI σ 8 (Int32.toNatClampNeg (σ.1 7 5)) 0) (fun σ1 => ck 12 (σ1.1 7 5) (nm (ux_wI σ1 9 (Int32.toNatClampNeg (σ1.1 7 5)) x1) (fun σ2 => ck 12 (σ2.1 7 5) (nm (ux_wI σ2 10 (Int32.toNatClampNeg (σ2.1 7 5)) x2) (fun σ3 => ck 12 (σ3.1 7 5) (nm (ux_wI σ3 11 (Int32.toNatClampNeg (σ3.1 7 5)) (-1)) (fun σ4 => nm (ux_wI σ4 7 5 ((σ4.1 7 5) + 1)) (fun σ5 => some ((σ5.1 7 5) - 1, σ5))))))))))
noncomputable def fX2_add (τ : Nat) (σ : S2) (a1 : Int32) (a2 : Int32) : Option (Int32 × S2) := fX2_add_0 τ σ a1 a2
noncomputable def fX2_counting_26 (τ : Nat)  (σ : S2) (x1 : Int32) (s0 : Int32) : Option Int32 := if s0 = 0 then ck 12 x1 (nm (σ.1 10 (Int32.toNatClampNeg x1)) (fun v1 => some (v1))) else ck 12 x1 (nm (σ.1 10 (Int32.toNatClampNeg x1)) (fun v2 => some (2 * v2)))
noncomputable def fX2_counting_21 (τ : Nat)  (σ : S2) (x1 : Int32) : Option Int32 := fX2_counting_26 τ σ x1 1
noncomputable def fX2_counting_0 (τ : Nat)  (σ : S2) (x1 : Int32) : Option Int32 := ck 12 x1 (nm (σ.1 8 (Int32.toNatClampNeg x1)) (fun v3 => if v3 = 1 then fX2_counting_21 τ σ x1 else ck 12 x1 (nm (σ.1 8 (Int32.toNatClampNeg x1)) (fun v4 => if v4 = 6 then fX2_counting_21 τ σ x1 else fX2_counting_26 τ σ x1 0))))
noncomputable def fX2_counting (τ : Nat) (σ : S2) (a1 : Int32) : Option Int32 := fX2_counting_0 τ σ a1
noncomputable def fX2_isUp_0 (τ : Nat)  (σ : S2) (x1 : Int32) : Option Int32 := ck 12 x1 (nm (σ.1 12 (Int32.toNatClampNeg x1)) (fun v1 => if v1 = 0 then ck 12 x1 (nm (σ.1 8 (Int32.toNatClampNeg x1)) (fun v2 => if v2 = 4 then some (0) else some (1))) else some (0)))
noncomputable def fX2_isUp (τ : Nat) (σ : S2) (a1 : Int32) : Option Int32 := fX2_isUp_0 τ σ a1
noncomputable def fJ6_bitCount_0f7a4_0 (τ : Nat)  (σ : S2) (x0 : Int32) : Option Int32 := nm (x0 - ((UInt32.toInt32 (Int32.toUInt32 x0 >>> (Int32.toUInt32 1 &&& Int32.toUInt32 31))) &&& 1431655765)) (fun v1 => nm ((v1 &&& 858993459) + ((UInt32.toInt32 (Int32.toUInt32 v1 >>> (Int32.toUInt32 2 &&& Int32.toUInt32 31))) &&& 858993459)) (fun v2 => nm ((v2 + (UInt32.toInt32 (Int32.toUInt32 v2 >>> (Int32.toUInt32 4 &&& Int32.toUInt32 31)))) &&& 252645135) (fun v3 => nm (v3 + (UInt32.toInt32 (Int32.toUInt32 v3 >>> (Int32.toUInt32 8 &&& Int32.toUInt32 31)))) (fun v4 => nm (v4 + (UInt32.toInt32 (Int32.toUInt32 v4 >>> (Int32.toUInt32 16 &&& Int32.toUInt32 31)))) (fun v5 => some (v5 &&& 63))))))
noncomputable def fJ6_bitCount_0f7a4 (τ : Nat) (σ : S2) (a0 : Int32) : Option Int32 := fJ6_bitCount_0f7a4_0 τ σ a0
noncomputable def fX3_look_94 (τ : Nat) (k26 : S2 → Int32 → Int32 → Option (Unit × S2)) (σ : S2) (x3 : Int32) (x4 : Int32) : Option (Unit × S2) := nm (x4 + 1) (fun v1 => k26 σ x3 v1)
noncomputable def fX3_look_26 (τ : Nat)  : Nat → S2 → Int32 → Int32 → Option (Unit × S2)
  | 0, _, _, _ => none
  | n + 1, σ, x3, x4 => if 12 ≤ x4 then bi (fJ6_bitCount_0f7a4 τ σ x3) (fun r2 => nm (ux_wI σ 13 5 r2) (fun σ4 => some ((), σ4))) else if (((σ.1 182 0) >>> (x4 &&& 31)) &&& 1) = 0 then fX3_look_94 τ (fX3_look_26 τ n) σ x3 x4 else ck 12 x4 (nm (σ.1 9 (Int32.toNatClampNeg x4)) (fun v5 => nm (x3 ||| (1 <<< (v5 &&& 31))) (fun v6 => ck 12 x4 (nm (σ.1 183 (Int32.toNatClampNeg x4)) (fun v7 => nm (ux_wI σ 13 6 ((σ.1 13 6) + v7)) (fun σ8 => ck 12 x4 (nm (σ8.1 183 (Int32.toNatClampNeg x4)) (fun v9 => nm (ux_wI σ8 13 7 (if (σ8.1 13 7) < v9 then v9 else (σ8.1 13 7))) (fun σ10 => fX3_look_94 τ (fX3_look_26 τ n) σ10 v6 x4)))))))))
noncomputable def fX3_look_0 (τ : Nat)  (σ : S2)  : Option (Unit × S2) := bi (fJ6_bitCount_0f7a4 τ σ (σ.1 182 0)) (fun r11 => nm (ux_wI σ 13 4 r11) (fun σ13 => nm (ux_wI σ13 13 6 0) (fun σ14 => nm (ux_wI σ14 13 7 0) (fun σ15 => fX3_look_26 τ FU σ15 0 0))))
noncomputable def fX3_look (τ : Nat) (σ : S2)  : Option (Unit × S2) := fX3_look_0 τ σ
noncomputable def fX3_sign_0 (τ : Nat)  (σ : S2)  : Option Int32 := if (σ.1 13 2) < 0 then some ((-1)) else if (σ.1 13 1) ≤ (σ.1 13 2) then some ((-1)) else if (Int32.ofNat (if σ.1 13 0 = 0 then 0 else 80)) ≤ (σ.1 13 2) then some ((-1)) else ck (if σ.1 13 0 = 0 then 0 else 80) (σ.1 13 2) (nm (σ.1 (if σ.1 13 0 = 0 then 43 else 185) (Int32.toNatClampNeg (σ.1 13 2))) (fun v1 => some (v1 &&& 255)))
noncomputable def fX3_sign (τ : Nat) (σ : S2)  : Option Int32 := fX3_sign_0 τ σ
noncomputable def fX3_isDigit_0 (τ : Nat)  (σ : S2) (x0 : Int32) : Option Int32 := if x0 < 48 then some (0) else if 57 < x0 then some (0) else some (1)
noncomputable def fX3_isDigit (τ : Nat) (σ : S2) (a0 : Int32) : Option Int32 := fX3_isDigit_0 τ σ a0
noncomputable def fX3_readNumber_4 (τ : Nat)  : Nat → S2 → Int32 → Int32 → Option (Int32 × S2)
  | 0, _, _, _ => none
  | n + 1, σ, x1, x2 => if 3 ≤ x2 then some (x1, σ) else bi (fX3_sign τ σ) (fun r1 => bi (fX3_isDigit τ σ r1) (fun r3 => if r3 = 0 then some (x1, σ) else bi (fX3_sign τ σ) (fun r5 => nm (((10 * x1) + r5) - 48) (fun v7 => nm (ux_wI σ 13 2 ((σ.1 13 2) + 1)) (fun σ8 => nm (x2 + 1) (fun v9 => fX3_readNumber_4 τ n σ8 v7 v9))))))
noncomputable def fX3_readNumber_0 (τ : Nat)  (σ : S2)  : Option (Int32 × S2) := fX3_readNumber_4 τ FU σ 0 0
noncomputable def fX3_readNumber (τ : Nat) (σ : S2)  : Option (Int32 × S2) := fX3_readNumber_0 τ σ
noncomputable def fX3_readSum_80 (τ : Nat) (qX3_readSum : S2 → Int32 → Option (Int32 × S2)) (qX3_readProduct : S2 → Int32 → Option (Int32 × S2)) (qX3_readOperand : S2 → Int32 → Option (Int32 × S2)) (qX3_readBracket : S2 → Int32 → Option (Int32 × S2)) (k8 : S2 → Int32 → Int32 → Int32 → Option (Int32 × S2)) (σ : S2) (x1 : Int32) (x3 : Int32) (s0 : Int32) : Option (Int32 × S2) := nm (x3 + 1) (fun v1 => k8 σ x1 s0 v1)
noncomputable def fX3_readSum_45 (τ : Nat) (qX3_readSum : S2 → Int32 → Option (Int32 × S2)) (qX3_readProduct : S2 → Int32 → Option (Int32 × S2)) (qX3_readOperand : S2 → Int32 → Option (Int32 × S2)) (qX3_readBracket : S2 → Int32 → Option (Int32 × S2)) (k8 : S2 → Int32 → Int32 → Int32 → Option (Int32 × S2)) (σ : S2) (x1 : Int32) (x2 : Int32) (x3 : Int32) (x4 : Int32) : Option (Int32 × S2) := nm (ux_wI σ 13 2 ((σ.1 13 2) + 1)) (fun σ2 => bs (qX3_readProduct σ2 x1) (fun r3 σ4 => if x4 = 43 then fX3_readSum_80 τ qX3_readSum qX3_readProduct qX3_readOperand qX3_readBracket k8 σ4 x1 x3 (x2 + r3) else fX3_readSum_80 τ qX3_readSum qX3_readProduct qX3_readOperand qX3_readBracket k8 σ4 x1 x3 (x2 - r3)))
noncomputable def fX3_readSum_8 (τ : Nat) (qX3_readSum : S2 → Int32 → Option (Int32 × S2)) (qX3_readProduct : S2 → Int32 → Option (Int32 × S2)) (qX3_readOperand : S2 → Int32 → Option (Int32 × S2)) (qX3_readBracket : S2 → Int32 → Option (Int32 × S2))  : Nat → S2 → Int32 → Int32 → Int32 → Option (Int32 × S2)
  | 0, _, _, _, _ => none
  | n + 1, σ, x1, x2, x3 => if 80 ≤ x3 then some (x2, σ) else if (σ.1 13 3) = (-1) then bi (fX3_sign τ σ) (fun r6 => if r6 = 43 then fX3_readSum_45 τ qX3_readSum qX3_readProduct qX3_readOperand qX3_readBracket (fX3_readSum_8 τ qX3_readSum qX3_readProduct qX3_readOperand qX3_readBracket n) σ x1 x2 x3 r6 else if r6 = 45 then fX3_readSum_45 τ qX3_readSum qX3_readProduct qX3_readOperand qX3_readBracket (fX3_readSum_8 τ qX3_readSum qX3_readProduct qX3_readOperand qX3_readBracket n) σ x1 x2 x3 r6 else some (x2, σ)) else some (x2, σ)
noncomputable def fX3_readSum_0 (τ : Nat) (qX3_readSum : S2 → Int32 → Option (Int32 × S2)) (qX3_readProduct : S2 → Int32 → Option (Int32 × S2)) (qX3_readOperand : S2 → Int32 → Option (Int32 × S2)) (qX3_readBracket : S2 → Int32 → Option (Int32 × S2))  (σ : S2) (x1 : Int32) : Option (Int32 × S2) := bs (qX3_readProduct σ x1) (fun r8 σ9 => fX3_readSum_8 τ qX3_readSum qX3_readProduct qX3_readOperand qX3_readBracket FU σ9 x1 r8 0)
noncomputable def eX3_readSum (τ : Nat) (qX3_readSum : S2 → Int32 → Option (Int32 × S2)) (qX3_readProduct : S2 → Int32 → Option (Int32 × S2)) (qX3_readOperand : S2 → Int32 → Option (Int32 × S2)) (qX3_readBracket : S2 → Int32 → Option (Int32 × S2)) (σ : S2) (a1 : Int32) : Option (Int32 × S2) := fX3_readSum_0 τ qX3_readSum qX3_readProduct qX3_readOperand qX3_readBracket σ a1
noncomputable def fX3_readProduct_113 (τ : Nat) (qX3_readSum : S2 → Int32 → Option (Int32 × S2)) (qX3_readProduct : S2 → Int32 → Option (Int32 × S2)) (qX3_readOperand : S2 → Int32 → Option (Int32 × S2)) (qX3_readBracket : S2 → Int32 → Option (Int32 × S2)) (k8 : S2 → Int32 → Int32 → Int32 → Option (Int32 × S2)) (σ : S2) (x1 : Int32) (x2 : Int32) (x3 : Int32) : Option (Int32 × S2) := nm (x3 + 1) (fun v1 => k8 σ x1 x2 v1)
noncomputable def fX3_readProduct_112 (τ : Nat) (qX3_readSum : S2 → Int32 → Option (Int32 × S2)) (qX3_readProduct : S2 → Int32 → Option (Int32 × S2)) (qX3_readOperand : S2 → Int32 → Option (Int32 × S2)) (qX3_readBracket : S2 → Int32 → Option (Int32 × S2)) (k8 : S2 → Int32 → Int32 → Int32 → Option (Int32 × S2)) (σ : S2) (x1 : Int32) (x3 : Int32) (s0 : Int32) : Option (Int32 × S2) := fX3_readProduct_113 τ qX3_readSum qX3_readProduct qX3_readOperand qX3_readBracket k8 σ x1 s0 x3
noncomputable def fX3_readProduct_52 (τ : Nat) (qX3_readSum : S2 → Int32 → Option (Int32 × S2)) (qX3_readProduct : S2 → Int32 → Option (Int32 × S2)) (qX3_readOperand : S2 → Int32 → Option (Int32 × S2)) (qX3_readBracket : S2 → Int32 → Option (Int32 × S2)) (k8 : S2 → Int32 → Int32 → Int32 → Option (Int32 × S2)) (σ : S2) (x1 : Int32) (x2 : Int32) (x3 : Int32) (x4 : Int32) : Option (Int32 × S2) := nm (ux_wI σ 13 2 ((σ.1 13 2) + 1)) (fun σ2 => bs (qX3_readOperand σ2 x1) (fun r3 σ4 => if x4 = 42 then nm (x2 * r3) (fun v8 => fX3_readProduct_113 τ qX3_readSum qX3_readProduct qX3_readOperand qX3_readBracket k8 σ4 x1 v8 x3) else if r3 = 0 then fX3_readProduct_113 τ qX3_readSum qX3_readProduct qX3_readOperand qX3_readBracket k8 σ4 x1 0 x3 else if x4 = 47 then dz r3 (fX3_readProduct_112 τ qX3_readSum qX3_readProduct qX3_readOperand qX3_readBracket k8 σ4 x1 x3 (x2 / r3)) else dz r3 (fX3_readProduct_112 τ qX3_readSum qX3_readProduct qX3_readOperand qX3_readBracket k8 σ4 x1 x3 (x2 - x2 / r3 * r3))))
noncomputable def fX3_readProduct_8 (τ : Nat) (qX3_readSum : S2 → Int32 → Option (Int32 × S2)) (qX3_readProduct : S2 → Int32 → Option (Int32 × S2)) (qX3_readOperand : S2 → Int32 → Option (Int32 × S2)) (qX3_readBracket : S2 → Int32 → Option (Int32 × S2))  : Nat → S2 → Int32 → Int32 → Int32 → Option (Int32 × S2)
  | 0, _, _, _, _ => none
  | n + 1, σ, x1, x2, x3 => if 80 ≤ x3 then some (x2, σ) else if (σ.1 13 3) = (-1) then bi (fX3_sign τ σ) (fun r9 => if r9 = 42 then fX3_readProduct_52 τ qX3_readSum qX3_readProduct qX3_readOperand qX3_readBracket (fX3_readProduct_8 τ qX3_readSum qX3_readProduct qX3_readOperand qX3_readBracket n) σ x1 x2 x3 r9 else if r9 = 47 then fX3_readProduct_52 τ qX3_readSum qX3_readProduct qX3_readOperand qX3_readBracket (fX3_readProduct_8 τ qX3_readSum qX3_readProduct qX3_readOperand qX3_readBracket n) σ x1 x2 x3 r9 else if r9 = 37 then fX3_readProduct_52 τ qX3_readSum qX3_readProduct qX3_readOperand qX3_readBracket (fX3_readProduct_8 τ qX3_readSum qX3_readProduct qX3_readOperand qX3_readBracket n) σ x1 x2 x3 r9 else some (x2, σ)) else some (x2, σ)
noncomputable def fX3_readProduct_0 (τ : Nat) (qX3_readSum : S2 → Int32 → Option (Int32 × S2)) (qX3_readProduct : S2 → Int32 → Option (Int32 × S2)) (qX3_readOperand : S2 → Int32 → Option (Int32 × S2)) (qX3_readBracket : S2 → Int32 → Option (Int32 × S2))  (σ : S2) (x1 : Int32) : Option (Int32 × S2) := bs (qX3_readOperand σ x1) (fun r11 σ12 => fX3_readProduct_8 τ qX3_readSum qX3_readProduct qX3_readOperand qX3_readBracket FU σ12 x1 r11 0)
noncomputable def eX3_readProduct (τ : Nat) (qX3_readSum : S2 → Int32 → Option (Int32 × S2)) (qX3_readProduct : S2 → Int32 → Option (Int32 × S2)) (qX3_readOperand : S2 → Int32 → Option (Int32 × S2)) (qX3_readBracket : S2 → Int32 → Option (Int32 × S2)) (σ : S2) (a1 : Int32) : Option (Int32 × S2) := fX3_readProduct_0 τ qX3_readSum qX3_readProduct qX3_readOperand qX3_readBracket σ a1
noncomputable def fX3_readOperand_122 (τ : Nat) (qX3_readSum : S2 → Int32 → Option (Int32 × S2)) (qX3_readProduct : S2 → Int32 → Option (Int32 × S2)) (qX3_readOperand : S2 → Int32 → Option (Int32 × S2)) (qX3_readBracket : S2 → Int32 → Option (Int32 × S2))  (σ : S2) (x3 : Int32) : Option (Int32 × S2) := nm (ux_wI σ 13 2 ((σ.1 13 2) + 1)) (fun σ1 => some (x3, σ1))
noncomputable def fX3_readOperand_34 (τ : Nat) (qX3_readSum : S2 → Int32 → Option (Int32 × S2)) (qX3_readProduct : S2 → Int32 → Option (Int32 × S2)) (qX3_readOperand : S2 → Int32 → Option (Int32 × S2)) (qX3_readBracket : S2 → Int32 → Option (Int32 × S2))  (σ : S2) (x2 : Int32) : Option (Int32 × S2) := if x2 = 110 then nm (σ.1 13 4) (fun v3 => fX3_readOperand_122 τ qX3_readSum qX3_readProduct qX3_readOperand qX3_readBracket σ v3) else if x2 = 116 then nm (σ.1 13 6) (fun v5 => fX3_readOperand_122 τ qX3_readSum qX3_readProduct qX3_readOperand qX3_readBracket σ v5) else if x2 = 117 then nm (σ.1 13 5) (fun v7 => fX3_readOperand_122 τ qX3_readSum qX3_readProduct qX3_readOperand qX3_readBracket σ v7) else if x2 = 120 then nm (σ.1 13 7) (fun v9 => fX3_readOperand_122 τ qX3_readSum qX3_readProduct qX3_readOperand qX3_readBracket σ v9) else nm (ux_wI σ 13 3 (σ.1 13 2)) (fun σ10 => some (0, σ10))
noncomputable def fX3_readOperand_0 (τ : Nat) (qX3_readSum : S2 → Int32 → Option (Int32 × S2)) (qX3_readProduct : S2 → Int32 → Option (Int32 × S2)) (qX3_readOperand : S2 → Int32 → Option (Int32 × S2)) (qX3_readBracket : S2 → Int32 → Option (Int32 × S2))  (σ : S2) (x1 : Int32) : Option (Int32 × S2) := bi (fX3_sign τ σ) (fun r11 => bi (fX3_isDigit τ σ r11) (fun r13 => if r13 = 0 then if r11 = 40 then if 4 ≤ x1 then fX3_readOperand_34 τ qX3_readSum qX3_readProduct qX3_readOperand qX3_readBracket σ r11 else bs (qX3_readBracket σ x1) (fun r15 σ16 => some (r15, σ16)) else fX3_readOperand_34 τ qX3_readSum qX3_readProduct qX3_readOperand qX3_readBracket σ r11 else bs (fX3_readNumber τ σ) (fun r18 σ19 => some (r18, σ19))))
noncomputable def eX3_readOperand (τ : Nat) (qX3_readSum : S2 → Int32 → Option (Int32 × S2)) (qX3_readProduct : S2 → Int32 → Option (Int32 × S2)) (qX3_readOperand : S2 → Int32 → Option (Int32 × S2)) (qX3_readBracket : S2 → Int32 → Option (Int32 × S2)) (σ : S2) (a1 : Int32) : Option (Int32 × S2) := fX3_readOperand_0 τ qX3_readSum qX3_readProduct qX3_readOperand qX3_readBracket σ a1
noncomputable def fX3_readBracket_0 (τ : Nat) (qX3_readSum : S2 → Int32 → Option (Int32 × S2)) (qX3_readProduct : S2 → Int32 → Option (Int32 × S2)) (qX3_readOperand : S2 → Int32 → Option (Int32 × S2)) (qX3_readBracket : S2 → Int32 → Option (Int32 × S2))  (σ : S2) (x1 : Int32) : Option (Int32 × S2) := nm (ux_wI σ 13 2 ((σ.1 13 2) + 1)) (fun σ1 => bs (qX3_readSum σ1 (x1 + 1)) (fun r2 σ3 => if (σ3.1 13 3) = (-1) then bi (fX3_sign τ σ3) (fun r5 => if r5 = 41 then nm (ux_wI σ3 13 2 ((σ3.1 13 2) + 1)) (fun σ8 => some (r2, σ8)) else nm (ux_wI σ3 13 3 (σ3.1 13 2)) (fun σ7 => some (r2, σ7))) else some (0, σ3)))
noncomputable def eX3_readBracket (τ : Nat) (qX3_readSum : S2 → Int32 → Option (Int32 × S2)) (qX3_readProduct : S2 → Int32 → Option (Int32 × S2)) (qX3_readOperand : S2 → Int32 → Option (Int32 × S2)) (qX3_readBracket : S2 → Int32 → Option (Int32 × S2)) (σ : S2) (a1 : Int32) : Option (Int32 × S2) := fX3_readBracket_0 τ qX3_readSum qX3_readProduct qX3_readOperand qX3_readBracket σ a1
noncomputable def GX3_readSum (τ : Nat) : Nat → Nat → S2 → Int32 → Option (Int32 × S2)
  | 0, _, _, _ => none
  | d + 1, 0, σ, a1 => eX3_readSum τ (GX3_readSum τ d 0) (GX3_readSum τ d 1) (GX3_readSum τ d 2) (GX3_readSum τ d 3) σ a1
  | d + 1, 1, σ, a1 => eX3_readProduct τ (GX3_readSum τ d 0) (GX3_readSum τ d 1) (GX3_readSum τ d 2) (GX3_readSum τ d 3) σ a1
  | d + 1, 2, σ, a1 => eX3_readOperand τ (GX3_readSum τ d 0) (GX3_readSum τ d 1) (GX3_readSum τ d 2) (GX3_readSum τ d 3) σ a1
  | d + 1, _, σ, a1 => eX3_readBracket τ (GX3_readSum τ d 0) (GX3_readSum τ d 1) (GX3_readSum τ d 2) (GX3_readSum τ d 3) σ a1
noncomputable def fX3_readSum (τ : Nat) (σ : S2) (a1 : Int32) : Option (Int32 × S2) := GX3_readSum τ 24 0 σ a1
noncomputable def fX3_readProduct (τ : Nat) (σ : S2) (a1 : Int32) : Option (Int32 × S2) := GX3_readSum τ 24 1 σ a1
noncomputable def fX3_readOperand (τ : Nat) (σ : S2) (a1 : Int32) : Option (Int32 × S2) := GX3_readSum τ 24 2 σ a1
noncomputable def fX3_readBracket (τ : Nat) (σ : S2) (a1 : Int32) : Option (Int32 × S2) := GX3_readSum τ 24 3 σ a1
noncomputable def fX3_heldWithin_0 (τ : Nat)  (σ : S2) (x0 : Int32) : Option Int32 := some (if 1 < (if x0 < 4 then x0 else 4) then (if x0 < 4 then x0 else 4) else 1)
noncomputable def fX3_heldWithin (τ : Nat) (σ : S2) (a0 : Int32) : Option Int32 := fX3_heldWithin_0 τ σ a0
noncomputable def fX3_readWay_17 (τ : Nat)  (σ : S2)  : Option (Int32 × S2) := nm (ux_wI σ 13 3 (σ.1 13 2)) (fun σ1 => some (0, σ1))
noncomputable def fX3_readWay_0 (τ : Nat)  (σ : S2)  : Option (Int32 × S2) := bi (fX3_sign τ σ) (fun r2 => nm (r2 - 48) (fun v4 => if v4 < 0 then fX3_readWay_17 τ σ else if v4 ≤ 2 then nm (ux_wI σ 13 2 ((σ.1 13 2) + 1)) (fun σ5 => some (v4, σ5)) else fX3_readWay_17 τ σ))
noncomputable def fX3_readWay (τ : Nat) (σ : S2)  : Option (Int32 × S2) := fX3_readWay_0 τ σ
noncomputable def fX3_readPart_50 (τ : Nat)  (σ : S2)  : Option (Int32 × S2) := nm (ux_wI σ 13 3 (σ.1 13 2)) (fun σ1 => some (0, σ1))
noncomputable def fX3_readPart_36 (τ : Nat)  (σ : S2) (x2 : Int32) (x3 : Int32) (s0 : Int32) : Option (Int32 × S2) := if s0 = 0 then fX3_readPart_50 τ σ else if (x2 &&& s0) = 0 then nm (ux_wI σ 13 2 ((σ.1 13 2) + 1)) (fun σ2 => bi (fX3_sign τ σ2) (fun r3 => if r3 = 32 then nm (ux_wI σ2 13 2 ((σ2.1 13 2) + 1)) (fun σ5 => if x3 = 99 then bs (fX3_readSum τ σ5 0) (fun r16 σ17 => bi (fX3_heldWithin τ σ17 r16) (fun r19 => nm (ux_wI σ17 182 2 r19) (fun σ21 => some (s0, σ21)))) else if x3 = 115 then bs (fX3_readSum τ σ5 0) (fun r10 σ11 => bi (fX3_heldWithin τ σ11 r10) (fun r13 => nm (ux_wI σ11 182 3 r13) (fun σ15 => some (s0, σ15)))) else bs (fX3_readWay τ σ5) (fun r6 σ7 => nm (ux_wI σ7 182 4 r6) (fun σ9 => some (s0, σ9)))) else nm (ux_wI σ2 13 3 (σ2.1 13 2)) (fun σ22 => some (0, σ22)))) else fX3_readPart_50 τ σ
noncomputable def fX3_readPart_0 (τ : Nat)  (σ : S2) (x2 : Int32) : Option (Int32 × S2) := bi (fX3_sign τ σ) (fun r23 => if r23 = 99 then fX3_readPart_36 τ σ x2 r23 1 else if r23 = 115 then fX3_readPart_36 τ σ x2 r23 2 else if r23 = 112 then fX3_readPart_36 τ σ x2 r23 4 else fX3_readPart_36 τ σ x2 r23 0)
noncomputable def fX3_readPart (τ : Nat) (σ : S2) (a2 : Int32) : Option (Int32 × S2) := fX3_readPart_0 τ σ a2
noncomputable def fX3_workOut_141 (τ : Nat)  (σ : S2)  : Option (Int32 × S2) := some (σ.1 13 3, σ)
noncomputable def fX3_workOut_135 (τ : Nat) (k52 : S2 → Int32 → Int32 → Option (Int32 × S2)) (σ : S2) (x3 : Int32) (x4 : Int32) : Option (Int32 × S2) := nm (x4 + 1) (fun v1 => k52 σ x3 v1)
noncomputable def fX3_workOut_127 (τ : Nat) (k52 : S2 → Int32 → Int32 → Option (Int32 × S2)) (σ : S2) (x3 : Int32) (x4 : Int32) : Option (Int32 × S2) := nm (ux_wI σ 13 3 (σ.1 13 2)) (fun σ2 => fX3_workOut_135 τ k52 σ2 x3 x4)
noncomputable def fX3_workOut_52 (τ : Nat)  : Nat → S2 → Int32 → Int32 → Option (Int32 × S2)
  | 0, _, _, _ => none
  | n + 1, σ, x3, x4 => if 3 ≤ x4 then fX3_workOut_141 τ σ else if (σ.1 13 3) = (-1) then bs (fX3_readPart τ σ x3) (fun r3 σ4 => nm (x3 ||| r3) (fun v6 => if (σ4.1 13 3) = (-1) then if (σ4.1 13 2) < (σ4.1 13 1) then bi (fX3_sign τ σ4) (fun r7 => if r7 = 59 then if 3 ≤ (x4 + 1) then fX3_workOut_127 τ (fX3_workOut_52 τ n) σ4 v6 x4 else nm (ux_wI σ4 13 2 ((σ4.1 13 2) + 1)) (fun σ9 => fX3_workOut_135 τ (fX3_workOut_52 τ n) σ9 v6 x4) else fX3_workOut_127 τ (fX3_workOut_52 τ n) σ4 v6 x4) else fX3_workOut_141 τ σ4 else fX3_workOut_141 τ σ4)) else fX3_workOut_141 τ σ
noncomputable def fX3_workOut_0 (τ : Nat)  (σ : S2)  : Option (Int32 × S2) := nm (ux_I σ 13 (upd (σ.1 13) 0 1)) (fun σ10 => nm (ux_wI σ10 13 1 (σ10.1 182 6)) (fun σ11 => nm (ux_wI σ11 13 2 0) (fun σ12 => nm (ux_wI σ12 13 3 (-1)) (fun σ13 => bs (fX3_look τ σ13) (fun r14 σ15 => nm (ux_wI σ15 182 2 2) (fun σ17 => nm (ux_wI σ17 182 3 1) (fun σ18 => nm (ux_wI σ18 182 4 0) (fun σ19 => fX3_workOut_52 τ FU σ19 0 0))))))))
noncomputable def fX3_workOut (τ : Nat) (σ : S2)  : Option (Int32 × S2) := fX3_workOut_0 τ σ
noncomputable def fX4_has_0 (τ : Nat)  (σ : S2) (x1 : Int32) : Option Int32 := if x1 < 0 then some (0) else if (σ.1 3 3) ≤ x1 then some (0) else some (1)
noncomputable def fX4_has (τ : Nat) (σ : S2) (a1 : Int32) : Option Int32 := fX4_has_0 τ σ a1
noncomputable def fX4_isAlike_3 (τ : Nat) (c0 n0 : Nat) (c1 n1 : Nat)  : Nat → S2 → Int32 → Int32 → Int32 → Option Int32
  | 0, _, _, _, _ => none
  | n + 1, σ, x2, x3, x4 => if x3 ≤ x4 then some (1) else ck n0 x4 (nm (σ.1 c0 (Int32.toNatClampNeg x4)) (fun v1 => ck n1 (x2 + x4) (nm (σ.1 c1 (Int32.toNatClampNeg (x2 + x4))) (fun v2 => if v1 = v2 then nm (x4 + 1) (fun v3 => fX4_isAlike_3 τ c0 n0 c1 n1 n σ x2 x3 v3) else some (0)))))
noncomputable def fX4_isAlike_0 (τ : Nat) (c0 n0 : Nat) (c1 n1 : Nat)  (σ : S2) (x2 : Int32) (x3 : Int32) : Option Int32 := fX4_isAlike_3 τ c0 n0 c1 n1 FU σ x2 x3 0
noncomputable def fX4_isAlike (τ : Nat) (c0 n0 : Nat) (c1 n1 : Nat) (σ : S2) (a2 : Int32) (a3 : Int32) : Option Int32 := fX4_isAlike_0 τ c0 n0 c1 n1 σ a2 a3
noncomputable def fX4_find_42 (τ : Nat) (c1 n1 : Nat) (k3 : S2 → Int32 → Int32 → Int32 → Option Int32) (σ : S2) (x2 : Int32) (x3 : Int32) (x4 : Int32) : Option Int32 := nm (x4 + 1) (fun v1 => k3 σ x2 x3 v1)
noncomputable def fX4_find_3 (τ : Nat) (c1 n1 : Nat)  : Nat → S2 → Int32 → Int32 → Int32 → Option Int32
  | 0, _, _, _, _ => none
  | n + 1, σ, x2, x3, x4 => if (σ.1 3 3) ≤ x4 then some ((-1)) else ck 40 x4 (nm (σ.1 5 (Int32.toNatClampNeg x4)) (fun v2 => if v2 = x3 then ck 40 x4 (bi (fX4_isAlike τ (44 + Int32.toNatClampNeg x4) 6 c1 n1 σ x2 x3) (fun r4 => if r4 = 0 then fX4_find_42 τ c1 n1 (fX4_find_3 τ c1 n1 n) σ x2 x3 x4 else some (x4))) else fX4_find_42 τ c1 n1 (fX4_find_3 τ c1 n1 n) σ x2 x3 x4))
noncomputable def fX4_find_0 (τ : Nat) (c1 n1 : Nat)  (σ : S2) (x2 : Int32) (x3 : Int32) : Option Int32 := fX4_find_3 τ c1 n1 FU σ x2 x3 0
noncomputable def fX4_find (τ : Nat) (c1 n1 : Nat) (σ : S2) (a2 : Int32) (a3 : Int32) : Option Int32 := fX4_find_0 τ c1 n1 σ a2 a3
noncomputable def fX4_add_0 (τ : Nat) (c1 n1 : Nat)  (σ : S2) (x2 : Int32) (x3 : Int32) : Option (Int32 × S2) := if (σ.1 3 3) < 40 then ck 40 (σ.1 3 3) (cp .byte n1 6 (σ.1 c1) x2 0 x3 (nm (ux_I σ (44 + Int32.toNatClampNeg (σ.1 3 3)) (va_cpy (σ.1 c1) (σ.1 (44 + Int32.toNatClampNeg (σ.1 3 3))) (Int32.toNatClampNeg x2) (Int32.toNatClampNeg 0) (Int32.toNatClampNeg x3))) (fun σ2 => ck 40 (σ2.1 3 3) (nm (ux_wI σ2 5 (Int32.toNatClampNeg (σ2.1 3 3)) x3) (fun σ3 => nm (ux_wI σ3 3 3 ((σ3.1 3 3) + 1)) (fun σ4 => some ((σ4.1 3 3) - 1, σ4))))))) else some ((-1), σ)
noncomputable def fX4_add (τ : Nat) (c1 n1 : Nat) (σ : S2) (a2 : Int32) (a3 : Int32) : Option (Int32 × S2) := fX4_add_0 τ c1 n1 σ a2 a3
noncomputable def fX4_placeOf_5 (τ : Nat)  : Nat → S2 → Int32 → Int32 → Int32 → Option Int32
  | 0, _, _, _, _ => none
  | n + 1, σ, x1, x3, x4 => ck 40 x1 (nm (σ.1 5 (Int32.toNatClampNeg x1)) (fun v1 => if v1 ≤ x4 then dz (1000 : Int32) (some ((UInt32.toInt32 (Int32.toUInt32 x3 >>> (Int32.toUInt32 7 &&& Int32.toUInt32 31))) - (UInt32.toInt32 (Int32.toUInt32 x3 >>> (Int32.toUInt32 7 &&& Int32.toUInt32 31))) / 1000 * 1000)) else ck 40 x1 (ck 6 x4 (nm (σ.1 (44 + Int32.toNatClampNeg x1) (Int32.toNatClampNeg x4)) (fun v4 => nm ((x3 ^^^ (v4 &&& 255)) * 16777619) (fun v5 => nm (x4 + 1) (fun v6 => fX4_placeOf_5 τ n σ x1 v5 v6)))))))
noncomputable def fX4_placeOf_0 (τ : Nat)  (σ : S2) (x1 : Int32) (x2 : Int32) : Option Int32 := fX4_placeOf_5 τ FU σ x1 x2 0
noncomputable def fX4_placeOf (τ : Nat) (σ : S2) (a1 : Int32) (a2 : Int32) : Option Int32 := fX4_placeOf_0 τ σ a1 a2
noncomputable def fX4_addFrom_153 (τ : Nat) (c1 n1 : Nat) (k9 : S2 → Int32 → Int32 → Int32 → Int32 → Int32 → Option (Int32 × S2)) (σ : S2) (x2 : Int32) (x4 : Int32) (x5 : Int32) (x6 : Int32) (x7 : Int32) : Option (Int32 × S2) := nm (x7 + 1) (fun v1 => k9 σ x2 x4 x5 x6 v1)
noncomputable def fX4_addFrom_74 (τ : Nat) (c1 n1 : Nat) (k9 : S2 → Int32 → Int32 → Int32 → Int32 → Int32 → Option (Int32 × S2)) : Nat → S2 → Int32 → Int32 → Int32 → Int32 → Int32 → Int32 → Int32 → Option (Int32 × S2)
  | 0, _, _, _, _, _, _, _, _ => none
  | n + 1, σ, x2, x4, x5, x6, x7, x10, x11 => if x10 ≤ x11 then nm (x6 + (1 + x10)) (fun v2 => bi (fX4_find τ 6 6 σ 0 x10) (fun r3 => if r3 = (-1) then bs (fX4_add τ 6 6 σ 0 x10) (fun r5 σ6 => if r5 = (-1) then some (x5, σ6) else nm (x5 + 1) (fun v8 => fX4_addFrom_153 τ c1 n1 k9 σ6 x2 x4 v8 v2 x7)) else fX4_addFrom_153 τ c1 n1 k9 σ x2 x4 x5 v2 x7)) else ck n1 ((x6 + 1) + x11) (nm (σ.2 c1 (Int32.toNatClampNeg ((x6 + 1) + x11))) (fun v9 => ck 6 x11 (nm (ux_wI σ 6 (Int32.toNatClampNeg x11) (vp_nar .byte (Int8.toInt32 (Int32.toInt8 (Int64.toInt32 v9))))) (fun σ10 => nm (x11 + 1) (fun v11 => fX4_addFrom_74 τ c1 n1 k9 n σ10 x2 x4 x5 x6 x7 x10 v11)))))
noncomputable def fX4_addFrom_9 (τ : Nat) (c1 n1 : Nat)  : Nat → S2 → Int32 → Int32 → Int32 → Int32 → Int32 → Option (Int32 × S2)
  | 0, _, _, _, _, _, _ => none
  | n + 1, σ, x2, x4, x5, x6, x7 => if x4 ≤ x7 then some (x5, σ) else if x6 < 0 then some (x5, σ) else if x6 < x2 then ck n1 x6 (nm (σ.2 c1 (Int32.toNatClampNeg x6)) (fun v12 => if (lg_cmp v12 1) < 0 then some (x5, σ) else if 0 < (lg_cmp v12 6) then some (x5, σ) else if (lg_cmp v12 (Int32.toInt64 (x2 - x6))) < 0 then nm (Int64.toInt32 v12) (fun v13 => fX4_addFrom_74 τ c1 n1 (fX4_addFrom_9 τ c1 n1 n) FU σ x2 x4 x5 x6 x7 v13 0) else some (x5, σ))) else some (x5, σ)
noncomputable def fX4_addFrom_0 (τ : Nat) (c1 n1 : Nat)  (σ : S2) (x2 : Int32) (x3 : Int32) (x4 : Int32) : Option (Int32 × S2) := fX4_addFrom_9 τ c1 n1 FU σ x2 x4 0 x3 0
noncomputable def fX4_addFrom (τ : Nat) (c1 n1 : Nat) (σ : S2) (a2 : Int32) (a3 : Int32) (a4 : Int32) : Option (Int32 × S2) := fX4_addFrom_0 τ c1 n1 σ a2 a3 a4
noncomputable def fX5_isTold_2 (τ : Nat)  : Nat → S2 → Int32 → Int32 → Option Int32
  | 0, _, _, _ => none
  | n + 1, σ, x1, x2 => if (σ.1 27 1) ≤ x2 then some (0) else ck 5 x2 (nm (σ.1 28 (Int32.toNatClampNeg x2)) (fun v1 => if v1 = x1 then some (1) else nm (x2 + 1) (fun v2 => fX5_isTold_2 τ n σ x1 v2)))
noncomputable def fX5_isTold_0 (τ : Nat)  (σ : S2) (x1 : Int32) : Option Int32 := fX5_isTold_2 τ FU σ x1 0
noncomputable def fX5_isTold (τ : Nat) (σ : S2) (a1 : Int32) : Option Int32 := fX5_isTold_0 τ σ a1
noncomputable def fX8_takeLaw_0 (τ : Nat) (b0 : Nat) (c1 n1 : Nat)  (σ : S2) (x2 : Int32) : Option (Unit × S2) := nm (ux_wI σ (182 + 6 * b0) 6 (if 0 < (if 80 < (if (Int32.ofNat n1) < x2 then (Int32.ofNat n1) else x2) then 80 else (if (Int32.ofNat n1) < x2 then (Int32.ofNat n1) else x2)) then (if 80 < (if (Int32.ofNat n1) < x2 then (Int32.ofNat n1) else x2) then 80 else (if (Int32.ofNat n1) < x2 then (Int32.ofNat n1) else x2)) else 0)) (fun σ1 => cp .byte n1 80 (σ1.1 c1) 0 0 (σ1.1 (182 + 6 * b0) 6) (nm (ux_I σ1 (182 + 6 * b0 + 3) (va_cpy (σ1.1 c1) (σ1.1 (182 + 6 * b0 + 3)) (Int32.toNatClampNeg 0) (Int32.toNatClampNeg 0) (Int32.toNatClampNeg (σ1.1 (182 + 6 * b0) 6)))) (fun σ2 => some ((), σ2))))
noncomputable def fX8_takeLaw (τ : Nat) (b0 : Nat) (c1 n1 : Nat) (σ : S2) (a2 : Int32) : Option (Unit × S2) := fX8_takeLaw_0 τ b0 c1 n1 σ a2
noncomputable def fX8_takeAll_0 (τ : Nat) (b0 : Nat) (b1 : Nat)  (σ : S2)  : Option (Unit × S2) := nm (ux_wI σ (182 + 6 * b0) 0 (σ.1 (182 + 6 * b1) 0)) (fun σ1 => cp .int 12 12 (σ1.1 (182 + 6 * b1 + 1)) 0 0 12 (nm (ux_I σ1 (182 + 6 * b0 + 1) (va_cpy (σ1.1 (182 + 6 * b1 + 1)) (σ1.1 (182 + 6 * b0 + 1)) (Int32.toNatClampNeg 0) (Int32.toNatClampNeg 0) (Int32.toNatClampNeg 12))) (fun σ2 => bs (fX8_takeLaw τ b0 (182 + 6 * b1 + 3) 80 σ2 (σ2.1 (182 + 6 * b1) 6)) (fun r3 σ4 => nm (ux_wI σ4 (182 + 6 * b0) 2 (σ4.1 (182 + 6 * b1) 2)) (fun σ6 => nm (ux_wI σ6 (182 + 6 * b0) 3 (σ6.1 (182 + 6 * b1) 3)) (fun σ7 => nm (ux_wI σ7 (182 + 6 * b0) 4 (σ7.1 (182 + 6 * b1) 4)) (fun σ8 => some ((), σ8))))))))
noncomputable def fX8_takeAll (τ : Nat) (b0 : Nat) (b1 : Nat) (σ : S2)  : Option (Unit × S2) := fX8_takeAll_0 τ b0 b1 σ
noncomputable def fJ7_fill_031fb_5 (τ : Nat) (c0 n0 : Nat)  : Nat → S2 → Int32 → Int32 → Int32 → Option (Unit × S2)
  | 0, _, _, _, _ => none
  | n + 1, σ, x1, x2, x3 => if x3 ≤ x2 then some ((), σ) else ck n0 x2 (nm (ux_wI σ c0 (Int32.toNatClampNeg x2) (vp_nar .byte x1)) (fun σ1 => nm (x2 + 1) (fun v2 => fJ7_fill_031fb_5 τ c0 n0 n σ1 x1 v2 x3)))
noncomputable def fJ7_fill_031fb_0 (τ : Nat) (c0 n0 : Nat)  (σ : S2) (x1 : Int32) : Option (Unit × S2) := nm (Int32.ofNat n0) (fun v3 => fJ7_fill_031fb_5 τ c0 n0 FU σ x1 0 v3)
noncomputable def fJ7_fill_031fb (τ : Nat) (c0 n0 : Nat) (σ : S2) (a1 : Int32) : Option (Unit × S2) := fJ7_fill_031fb_0 τ c0 n0 σ a1
noncomputable def fX8_freeFrom_4 (τ : Nat) (b0 : Nat)  : Nat → S2 → Int32 → Int32 → Option Int32
  | 0, _, _, _ => none
  | n + 1, σ, x2, x3 => if 1000 ≤ x3 then some (x2) else ck 1000 x2 (nm (σ.1 (182 + 6 * b0 + 4) (Int32.toNatClampNeg x2)) (fun v1 => if v1 = (-1) then some (x2) else bi (fX11_placeBehind τ σ x2) (fun r2 => nm (x3 + 1) (fun v4 => fX8_freeFrom_4 τ b0 n σ r2 v4))))
noncomputable def fX8_freeFrom_0 (τ : Nat) (b0 : Nat)  (σ : S2) (x1 : Int32) : Option Int32 := fX8_freeFrom_4 τ b0 FU σ x1 0
noncomputable def fX8_freeFrom (τ : Nat) (b0 : Nat) (σ : S2) (a1 : Int32) : Option Int32 := fX8_freeFrom_0 τ b0 σ a1
noncomputable def fX8_linkPlaces_28 (τ : Nat) (b0 : Nat) (k6 : S2 → Int32 → Int32 → Option (Unit × S2)) (σ : S2) (x1 : Int32) (x2 : Int32) (x3 : Int32) : Option (Unit × S2) := ck 1000 x3 (nm (ux_wI σ (182 + 6 * b0 + 5) (Int32.toNatClampNeg x3) (vp_nar .short (Int16.toInt32 (Int32.toInt16 x1)))) (fun σ1 => nm (x2 + (-1)) (fun v2 => k6 σ1 x1 v2)))
noncomputable def fX8_linkPlaces_6 (τ : Nat) (b0 : Nat)  : Nat → S2 → Int32 → Int32 → Option (Unit × S2)
  | 0, _, _, _ => none
  | n + 1, σ, x1, x2 => if x2 < 0 then some ((), σ) else dz (1000 : Int32) (nm (x2 - x2 / 1000 * 1000) (fun v4 => ck 1000 v4 (nm (σ.1 (182 + 6 * b0 + 4) (Int32.toNatClampNeg v4)) (fun v5 => if v5 = (-1) then fX8_linkPlaces_28 τ b0 (fX8_linkPlaces_6 τ b0 n) σ x1 x2 v4 else fX8_linkPlaces_28 τ b0 (fX8_linkPlaces_6 τ b0 n) σ v4 x2 v4))))
noncomputable def fX8_linkPlaces_0 (τ : Nat) (b0 : Nat)  (σ : S2)  : Option (Unit × S2) := fX8_linkPlaces_6 τ b0 FU σ 0 1999
noncomputable def fX8_linkPlaces (τ : Nat) (b0 : Nat) (σ : S2)  : Option (Unit × S2) := fX8_linkPlaces_0 τ b0 σ
noncomputable def fX8_seatAll_33 (τ : Nat) (b0 : Nat) (k25 : S2 → Int32 → Int32 → Option (Unit × S2)) : Nat → S2 → Int32 → Int32 → Int32 → Option (Unit × S2)
  | 0, _, _, _, _ => none
  | n + 1, σ, x1, x2, x3 => ck 12 x2 (nm (σ.1 (182 + 6 * b0 + 1) (Int32.toNatClampNeg x2)) (fun v1 => if (4 * v1) ≤ x3 then nm (x2 + 1) (fun v2 => k25 σ x1 v2) else bi (fX11_strewn τ σ (((x2 * 7919) + (x3 * 104729)) + x1)) (fun r3 => bi (fX8_freeFrom τ b0 σ r3) (fun r5 => ck 1000 r5 (nm (ux_wI σ (182 + 6 * b0 + 4) (Int32.toNatClampNeg r5) (vp_nar .byte (Int8.toInt32 (Int32.toInt8 x2)))) (fun σ7 => nm (ux_wI σ7 (182 + 6 * b0) 5 ((σ7.1 (182 + 6 * b0) 5) + 1)) (fun σ8 => nm (x3 + 1) (fun v9 => fX8_seatAll_33 τ b0 k25 n σ8 x1 x2 v9))))))))
noncomputable def fX8_seatAll_25 (τ : Nat) (b0 : Nat)  : Nat → S2 → Int32 → Int32 → Option (Unit × S2)
  | 0, _, _, _ => none
  | n + 1, σ, x1, x2 => if 12 ≤ x2 then bs (fX8_linkPlaces τ b0 σ) (fun r10 σ11 => some ((), σ11)) else fX8_seatAll_33 τ b0 (fX8_seatAll_25 τ b0 n) FU σ x1 x2 0
noncomputable def fX8_seatAll_0 (τ : Nat) (b0 : Nat)  (σ : S2) (x1 : Int32) : Option (Unit × S2) := nm (ux_wI σ (182 + 6 * b0) 1 x1) (fun σ13 => nm (ux_wI σ13 (182 + 6 * b0) 5 0) (fun σ14 => nm (ux_wI σ14 (182 + 6 * b0) 7 0) (fun σ15 => bs (fJ7_fill_031fb τ (182 + 6 * b0 + 4) 1000 σ15 (-1)) (fun r16 σ17 => fX8_seatAll_25 τ b0 FU σ17 x1 0))))
noncomputable def fX8_seatAll (τ : Nat) (b0 : Nat) (σ : S2) (a1 : Int32) : Option (Unit × S2) := fX8_seatAll_0 τ b0 σ a1
noncomputable def fX5_seatSet_123 (τ : Nat) (b1 : Nat)  : Nat → S2 → Int32 → Int32 → Option (Int32 × S2)
  | 0, _, _, _ => none
  | n + 1, σ, x3, x4 => if (σ.1 3 3) ≤ x4 then some (1, σ) else bi (fX4_placeOf τ σ x4 (σ.1 182 1)) (fun r1 => bs (fX1_choose τ 0 σ r1) (fun r3 σ4 => ck 32 x3 (ck 40 x4 (nm (ux_wI σ4 (144 + Int32.toNatClampNeg x3) (Int32.toNatClampNeg x4) (σ4.1 14 4)) (fun σ7 => nm (x4 + 1) (fun v8 => fX5_seatSet_123 τ b1 n σ7 x3 v8))))))
noncomputable def fX5_seatSet_84 (τ : Nat) (b1 : Nat) (k8 : S2 → Int32 → Int32 → Option (Int32 × S2)) (σ : S2) (x3 : Int32) (x4 : Int32) : Option (Int32 × S2) := nm (x4 + 1) (fun v9 => k8 σ x3 v9)
noncomputable def fX5_seatSet_83 (τ : Nat) (b1 : Nat) (k8 : S2 → Int32 → Int32 → Option (Int32 × S2)) (σ : S2) (x3 : Int32) (x4 : Int32) (s0 : Int32) (s1 : Int32) : Option (Int32 × S2) := ck 12 s1 (nm (ux_wI σ 183 (Int32.toNatClampNeg s1) s0) (fun σ10 => fX5_seatSet_84 τ b1 k8 σ10 x3 x4))
noncomputable def fX5_seatSet_8 (τ : Nat) (b1 : Nat)  : Nat → S2 → Int32 → Int32 → Option (Int32 × S2)
  | 0, _, _, _ => none
  | n + 1, σ, x3, x4 => if (σ.1 27 1) ≤ x4 then if (σ.1 182 0) = 0 then some (0, σ) else bs (fX3_workOut τ σ) (fun r11 σ12 => bs (fX8_seatAll τ 0 σ12 (σ12.1 (182 + 6 * b1) 1)) (fun r14 σ15 => fX5_seatSet_123 τ b1 FU σ15 x3 0)) else if ((x3 >>> (x4 &&& 31)) &&& 1) = 0 then fX5_seatSet_84 τ b1 (fX5_seatSet_8 τ b1 n) σ x3 x4 else ck 5 x4 (nm (σ.1 28 (Int32.toNatClampNeg x4)) (fun v17 => nm (ux_wI σ 182 0 ((σ.1 182 0) ^^^ (1 <<< (v17 &&& 31)))) (fun σ18 => if (((σ18.1 182 0) >>> (v17 &&& 31)) &&& 1) = 1 then bi (fX2_counting τ σ18 v17) (fun r19 => fX5_seatSet_83 τ b1 (fX5_seatSet_8 τ b1 n) σ18 x3 x4 r19 v17) else fX5_seatSet_83 τ b1 (fX5_seatSet_8 τ b1 n) σ18 x3 x4 0 v17)))
noncomputable def fX5_seatSet_0 (τ : Nat) (b1 : Nat)  (σ : S2) (x3 : Int32) : Option (Int32 × S2) := bs (fX8_takeAll τ 0 b1 σ) (fun r21 σ22 => fX5_seatSet_8 τ b1 FU σ22 x3 0)
noncomputable def fX5_seatSet (τ : Nat) (b1 : Nat) (σ : S2) (a3 : Int32) : Option (Int32 × S2) := fX5_seatSet_0 τ b1 σ a3
noncomputable def fX5_sumOver_29 (τ : Nat)  : Nat → S2 → Int32 → Int32 → Int32 → Int32 → Option Int32
  | 0, _, _, _, _, _ => none
  | n + 1, σ, x1, x3, x4, x5 => if (σ.1 3 3) ≤ x5 then ck 32 x3 (nm (σ.1 31 (Int32.toNatClampNeg x3)) (fun v1 => some (x4 + v1))) else ck 32 x3 (ck 40 x5 (nm (σ.1 (144 + Int32.toNatClampNeg x3) (Int32.toNatClampNeg x5)) (fun v3 => ck 32 x1 (ck 40 x5 (nm (σ.1 (144 + Int32.toNatClampNeg x1) (Int32.toNatClampNeg x5)) (fun v5 => bi (fJ6_bitCount_0f7a4 τ σ (v3 &&& (v5 ^^^ (-1)))) (fun r6 => nm (x4 + r6) (fun v8 => nm (x5 + 1) (fun v9 => fX5_sumOver_29 τ n σ x1 x3 v8 v9)))))))))
noncomputable def fX5_sumOver_0 (τ : Nat)  (σ : S2) (x1 : Int32) (x2 : Int32) : Option Int32 := nm (x1 ||| (1 <<< (x2 &&& 31))) (fun v10 => if v10 = x1 then some ((-1)) else ck 32 v10 (nm (σ.1 31 (Int32.toNatClampNeg v10)) (fun v11 => if v11 = (-1) then some ((-1)) else fX5_sumOver_29 τ FU σ x1 v10 0 0)))
noncomputable def fX5_sumOver (τ : Nat) (σ : S2) (a1 : Int32) (a2 : Int32) : Option Int32 := fX5_sumOver_0 τ σ a1 a2
noncomputable def fX5_leastOnward_40 (τ : Nat) (k4 : S2 → Int32 → Int32 → Int32 → Option Int32) (σ : S2) (x1 : Int32) (x2 : Int32) (x3 : Int32) : Option Int32 := nm (x3 + 1) (fun v1 => k4 σ x1 x2 v1)
noncomputable def fX5_leastOnward_37 (τ : Nat) (k4 : S2 → Int32 → Int32 → Int32 → Option Int32) (σ : S2) (x1 : Int32) (x3 : Int32) (x4 : Int32) : Option Int32 := fX5_leastOnward_40 τ k4 σ x1 x4 x3
noncomputable def fX5_leastOnward_4 (τ : Nat)  : Nat → S2 → Int32 → Int32 → Int32 → Option Int32
  | 0, _, _, _, _ => none
  | n + 1, σ, x1, x2, x3 => if (σ.1 27 1) ≤ x3 then some (x2) else bi (fX5_sumOver τ σ x1 x3) (fun r2 => if r2 = (-1) then fX5_leastOnward_40 τ (fX5_leastOnward_4 τ n) σ x1 x2 x3 else if x2 = (-1) then fX5_leastOnward_37 τ (fX5_leastOnward_4 τ n) σ x1 x3 r2 else if x2 ≤ r2 then fX5_leastOnward_40 τ (fX5_leastOnward_4 τ n) σ x1 x2 x3 else fX5_leastOnward_37 τ (fX5_leastOnward_4 τ n) σ x1 x3 r2)
noncomputable def fX5_leastOnward_0 (τ : Nat)  (σ : S2) (x1 : Int32) : Option Int32 := fX5_leastOnward_4 τ FU σ x1 (-1) 0
noncomputable def fX5_leastOnward (τ : Nat) (σ : S2) (a1 : Int32) : Option Int32 := fX5_leastOnward_0 τ σ a1
noncomputable def fX5_nextOf_37 (τ : Nat) (k2 : S2 → Int32 → Int32 → Option Int32) (σ : S2) (x1 : Int32) (x2 : Int32) : Option Int32 := nm (x2 + 1) (fun v1 => k2 σ x1 v1)
noncomputable def fX5_nextOf_2 (τ : Nat)  : Nat → S2 → Int32 → Int32 → Option Int32
  | 0, _, _, _ => none
  | n + 1, σ, x1, x2 => if (σ.1 27 1) ≤ x2 then some (0) else bi (fX5_sumOver τ σ x1 x2) (fun r2 => ck 32 x1 (nm (σ.1 31 (Int32.toNatClampNeg x1)) (fun v4 => if r2 = v4 then ck 32 x1 (nm (σ.1 31 (Int32.toNatClampNeg x1)) (fun v5 => if v5 = (-1) then fX5_nextOf_37 τ (fX5_nextOf_2 τ n) σ x1 x2 else some (x2))) else fX5_nextOf_37 τ (fX5_nextOf_2 τ n) σ x1 x2)))
noncomputable def fX5_nextOf_0 (τ : Nat)  (σ : S2) (x1 : Int32) : Option Int32 := fX5_nextOf_2 τ FU σ x1 0
noncomputable def fX5_nextOf (τ : Nat) (σ : S2) (a1 : Int32) : Option Int32 := fX5_nextOf_0 τ σ a1
noncomputable def fX5_walk_9 (τ : Nat)  : Nat → S2 → Int32 → Int32 → Int32 → Option (Unit × S2)
  | 0, _, _, _, _ => none
  | n + 1, σ, x1, x2, x3 => if (σ.1 27 1) ≤ x3 then some ((), σ) else if x2 = x1 then some ((), σ) else bi (fX5_nextOf τ σ x2) (fun r1 => ck 5 (σ.1 27 3) (nm (ux_wI σ 29 (Int32.toNatClampNeg (σ.1 27 3)) r1) (fun σ3 => nm (ux_wI σ3 27 3 ((σ3.1 27 3) + 1)) (fun σ4 => nm (x2 ||| (1 <<< (r1 &&& 31))) (fun v5 => nm (x3 + 1) (fun v6 => fX5_walk_9 τ n σ4 x1 v5 v6))))))
noncomputable def fX5_walk_0 (τ : Nat)  (σ : S2) (x1 : Int32) : Option (Unit × S2) := nm (ux_wI σ 27 3 0) (fun σ7 => fX5_walk_9 τ FU σ7 x1 0 0)
noncomputable def fX5_walk (τ : Nat) (σ : S2) (a1 : Int32) : Option (Unit × S2) := fX5_walk_0 τ σ a1
noncomputable def fX5_leastFrom_62 (τ : Nat) (b1 : Nat) (k12 : S2 → Int32 → Int32 → Option (Int32 × S2)) (σ : S2) (x3 : Int32) (x4 : Int32) : Option (Int32 × S2) := nm (x4 + (-1)) (fun v1 => k12 σ x3 v1)
noncomputable def fX5_leastFrom_50 (τ : Nat) (b1 : Nat) (k12 : S2 → Int32 → Int32 → Option (Int32 × S2)) (σ : S2) (x3 : Int32) (x4 : Int32) (s0 : Int32) (s1 : Int32) : Option (Int32 × S2) := ck 32 s1 (nm (ux_wI σ 31 (Int32.toNatClampNeg s1) s0) (fun σ2 => fX5_leastFrom_62 τ b1 k12 σ2 x3 x4))
noncomputable def fX5_leastFrom_12 (τ : Nat) (b1 : Nat)  : Nat → S2 → Int32 → Int32 → Option (Int32 × S2)
  | 0, _, _, _ => none
  | n + 1, σ, x3, x4 => if x4 < 0 then ck 32 0 (nm (σ.1 31 (Int32.toNatClampNeg 0)) (fun v3 => if v3 = (-1) then some ((-1), σ) else bs (fX5_walk τ σ x3) (fun r4 σ5 => nm (ux_wI σ5 27 1 0) (fun σ7 => ck 32 0 (nm (σ7.1 31 (Int32.toNatClampNeg 0)) (fun v8 => some (v8, σ7))))))) else bs (fX5_seatSet τ b1 σ x4) (fun r9 σ10 => if r9 = 0 then ck 32 x4 (nm (ux_wI σ10 31 (Int32.toNatClampNeg x4) (-1)) (fun σ12 => fX5_leastFrom_62 τ b1 (fX5_leastFrom_12 τ b1 n) σ12 x3 x4)) else if x4 = x3 then fX5_leastFrom_50 τ b1 (fX5_leastFrom_12 τ b1 n) σ10 x3 x4 0 x4 else bi (fX5_leastOnward τ σ10 x4) (fun r13 => fX5_leastFrom_50 τ b1 (fX5_leastFrom_12 τ b1 n) σ10 x3 x4 r13 x4))
noncomputable def fX5_leastFrom_0 (τ : Nat) (b1 : Nat)  (σ : S2)  : Option (Int32 × S2) := nm ((1 <<< ((σ.1 27 1) &&& 31)) - 1) (fun v15 => fX5_leastFrom_12 τ b1 FU σ v15 v15)
noncomputable def fX5_leastFrom (τ : Nat) (b1 : Nat) (σ : S2)  : Option (Int32 × S2) := fX5_leastFrom_0 τ b1 σ
noncomputable def fX6_isKeptFor_106 (τ : Nat) (k2 : S2 → Int32 → Int32 → Int32 → Option (Int32 × S2)) (σ : S2) (x1 : Int32) (x2 : Int32) (x3 : Int32) : Option (Int32 × S2) := nm (x3 + 1) (fun v1 => k2 σ x1 x2 v1)
noncomputable def fX6_isKeptFor_79 (τ : Nat)  (σ : S2) (x1 : Int32) (x2 : Int32) (x4 : Int32) : Option (Int32 × S2) := ck 12 x4 (ck 40 x2 (nm (σ.1 24 (Int32.toNatClampNeg x2)) (fun v3 => ck 40 x2 (nm (ux_wI σ (96 + Int32.toNatClampNeg x4) (Int32.toNatClampNeg x2) v3) (fun σ4 => ck 12 x4 (ck 40 x2 (nm (ux_wI σ4 (108 + Int32.toNatClampNeg x4) (Int32.toNatClampNeg x2) x1) (fun σ6 => some (1, σ6)))))))))
noncomputable def fX6_isKeptFor_2 (τ : Nat)  : Nat → S2 → Int32 → Int32 → Int32 → Option (Int32 × S2)
  | 0, _, _, _, _ => none
  | n + 1, σ, x1, x2, x3 => if (σ.1 14 2) ≤ x3 then some (0, σ) else ck 12 x3 (nm (σ.1 15 (Int32.toNatClampNeg x3)) (fun v7 => bi (fX1_isChosen τ σ v7) (fun r8 => if r8 = 0 then bi (fX2_isUp τ σ v7) (fun r10 => if r10 = 0 then fX6_isKeptFor_106 τ (fX6_isKeptFor_2 τ n) σ x1 x2 x3 else ck 12 v7 (ck 40 x2 (nm (σ.1 (96 + Int32.toNatClampNeg v7) (Int32.toNatClampNeg x2)) (fun v13 => if v13 ≤ 0 then fX6_isKeptFor_79 τ σ x1 x2 v7 else ck 12 v7 (ck 40 x2 (nm (σ.1 (108 + Int32.toNatClampNeg v7) (Int32.toNatClampNeg x2)) (fun v15 => if v15 = x1 then fX6_isKeptFor_79 τ σ x1 x2 v7 else fX6_isKeptFor_106 τ (fX6_isKeptFor_2 τ n) σ x1 x2 x3))))))) else fX6_isKeptFor_106 τ (fX6_isKeptFor_2 τ n) σ x1 x2 x3)))
noncomputable def fX6_isKeptFor_0 (τ : Nat)  (σ : S2) (x1 : Int32) (x2 : Int32) : Option (Int32 × S2) := fX6_isKeptFor_2 τ FU σ x1 x2 0
noncomputable def fX6_isKeptFor (τ : Nat) (σ : S2) (a1 : Int32) (a2 : Int32) : Option (Int32 × S2) := fX6_isKeptFor_0 τ σ a1 a2
noncomputable def fX6_filled_30 (τ : Nat) (c0 n0 : Nat) (k10 : S2 → Int32 → Int32 → Int32 → Option Int32) (σ : S2) (x1 : Int32) (x3 : Int32) (x4 : Int32) : Option Int32 := nm (x4 + 1) (fun v1 => k10 σ x1 x3 v1)
noncomputable def fX6_filled_10 (τ : Nat) (c0 n0 : Nat)  : Nat → S2 → Int32 → Int32 → Int32 → Option Int32
  | 0, _, _, _, _ => none
  | n + 1, σ, x1, x3, x4 => if x3 ≤ x4 then some (x1) else ck n0 x4 (nm (σ.1 c0 (Int32.toNatClampNeg x4)) (fun v2 => if v2 ≤ 0 then fX6_filled_30 τ c0 n0 (fX6_filled_10 τ c0 n0 n) σ x1 x3 x4 else nm (x1 + 1) (fun v3 => fX6_filled_30 τ c0 n0 (fX6_filled_10 τ c0 n0 n) σ v3 x3 x4)))
noncomputable def fX6_filled_0 (τ : Nat) (c0 n0 : Nat)  (σ : S2)  : Option Int32 := nm (Int32.ofNat n0) (fun v4 => fX6_filled_10 τ c0 n0 FU σ 0 v4 0)
noncomputable def fX6_filled (τ : Nat) (c0 n0 : Nat) (σ : S2)  : Option Int32 := fX6_filled_0 τ c0 n0 σ
noncomputable def fX6_copiesOn_0 (τ : Nat)  (σ : S2) (x1 : Int32) : Option Int32 := ck 12 x1 (bi (fX6_filled τ (84 + Int32.toNatClampNeg x1) 40 σ) (fun r2 => some (r2)))
noncomputable def fX6_copiesOn (τ : Nat) (σ : S2) (a1 : Int32) : Option Int32 := fX6_copiesOn_0 τ σ a1
noncomputable def fX6_hasRoom_0 (τ : Nat)  (σ : S2) (x1 : Int32) (x2 : Int32) : Option Int32 := ck 12 x1 (nm (σ.1 8 (Int32.toNatClampNeg x1)) (fun v1 => if v1 = 6 then ck 12 x1 (ck 40 x2 (nm (σ.1 (84 + Int32.toNatClampNeg x1) (Int32.toNatClampNeg x2)) (fun v3 => if v3 ≤ 0 then bi (fX6_copiesOn τ σ x1) (fun r4 => if 8 ≤ r4 then some (0) else some (1)) else some (1)))) else some (1)))
noncomputable def fX6_hasRoom (τ : Nat) (σ : S2) (a1 : Int32) (a2 : Int32) : Option Int32 := fX6_hasRoom_0 τ σ a1 a2
noncomputable def fX6_takesGreater_0 (τ : Nat)  (σ : S2) (x1 : Int32) (x2 : Int32) (x3 : Int32) : Option (Int32 × S2) := ck 12 x1 (ck 40 x2 (nm (σ.1 (84 + Int32.toNatClampNeg x1) (Int32.toNatClampNeg x2)) (fun v2 => if v2 < x3 then ck 12 x1 (ck 40 x2 (nm (ux_wI σ (84 + Int32.toNatClampNeg x1) (Int32.toNatClampNeg x2) x3) (fun σ4 => some (1, σ4)))) else some (0, σ))))
noncomputable def fX6_takesGreater (τ : Nat) (σ : S2) (a1 : Int32) (a2 : Int32) (a3 : Int32) : Option (Int32 × S2) := fX6_takesGreater_0 τ σ a1 a2 a3
noncomputable def fX6_receives_0 (τ : Nat)  (σ : S2) (x1 : Int32) (x2 : Int32) (x3 : Int32) : Option (Int32 × S2) := bi (fX6_hasRoom τ σ x1 x2) (fun r1 => if r1 = 0 then some (0, σ) else bs (fX6_takesGreater τ σ x1 x2 x3) (fun r3 σ4 => if r3 = 0 then some (0, σ4) else some (1, σ4)))
noncomputable def fX6_receives (τ : Nat) (σ : S2) (a1 : Int32) (a2 : Int32) (a3 : Int32) : Option (Int32 × S2) := fX6_receives_0 τ σ a1 a2 a3
noncomputable def fX6_reaches_0 (τ : Nat)  (σ : S2) (x1 : Int32) (x2 : Int32) : Option (Int32 × S2) := ck 12 x1 (nm (σ.1 12 (Int32.toNatClampNeg x1)) (fun v1 => if v1 = 0 then ck 12 x1 (nm (σ.1 8 (Int32.toNatClampNeg x1)) (fun v2 => if v2 = 4 then bs (fX6_isKeptFor τ σ x1 x2) (fun r8 σ9 => zb r8 (some (r8, σ9))) else ck 40 x2 (nm (σ.1 24 (Int32.toNatClampNeg x2)) (fun v3 => bs (fX6_receives τ σ x1 x2 v3) (fun r4 σ5 => zb r4 (some (r4, σ5))))))) else some (0, σ)))
noncomputable def fX6_reaches (τ : Nat) (σ : S2) (a1 : Int32) (a2 : Int32) : Option (Int32 × S2) := fX6_reaches_0 τ σ a1 a2
noncomputable def fX6_spread_78 (τ : Nat) (b1 : Nat) (k45 : S2 → Int32 → Int32 → Int32 → Option (Int32 × S2)) (σ : S2) (x2 : Int32) (x3 : Int32) (x4 : Int32) : Option (Int32 × S2) := nm (x4 + 1) (fun v1 => k45 σ x2 x3 v1)
noncomputable def fX6_spread_45 (τ : Nat) (b1 : Nat)  : Nat → S2 → Int32 → Int32 → Int32 → Option (Int32 × S2)
  | 0, _, _, _, _ => none
  | n + 1, σ, x2, x3, x4 => if (σ.1 14 3) ≤ x4 then some (x3, σ) else ck 12 x4 (nm (σ.1 16 (Int32.toNatClampNeg x4)) (fun v2 => bs (fX6_reaches τ σ v2 x2) (fun r3 σ4 => if r3 = 0 then fX6_spread_78 τ b1 (fX6_spread_45 τ b1 n) σ4 x2 x3 x4 else nm (x3 + 1) (fun v6 => fX6_spread_78 τ b1 (fX6_spread_45 τ b1 n) σ4 x2 v6 x4))))
noncomputable def fX6_spread_0 (τ : Nat) (b1 : Nat)  (σ : S2) (x2 : Int32) : Option (Int32 × S2) := nm (ux_wI σ 18 8 ((σ.1 18 8) + 1)) (fun σ7 => ck 40 x2 (nm (σ7.1 24 (Int32.toNatClampNeg x2)) (fun v8 => ck 40 x2 (nm (ux_wI σ7 24 (Int32.toNatClampNeg x2) (v8 + 1)) (fun σ9 => bi (fX4_placeOf τ σ9 x2 (σ9.1 (182 + 6 * b1) 1)) (fun r10 => bs (fX1_choose τ b1 σ9 r10) (fun r12 σ13 => fX6_spread_45 τ b1 FU σ13 x2 0 0)))))))
noncomputable def fX6_spread (τ : Nat) (b1 : Nat) (σ : S2) (a2 : Int32) : Option (Int32 × S2) := fX6_spread_0 τ b1 σ a2
noncomputable def fX6_handBack_76 (τ : Nat) (k15 : S2 → Int32 → Int32 → Int32 → Option (Unit × S2)) (σ : S2) (x1 : Int32) (x2 : Int32) (x3 : Int32) : Option (Unit × S2) := nm (x3 + 1) (fun v1 => k15 σ x1 x2 v1)
noncomputable def fX6_handBack_15 (τ : Nat) (k2 : S2 → Int32 → Int32 → Option (Unit × S2)) : Nat → S2 → Int32 → Int32 → Int32 → Option (Unit × S2)
  | 0, _, _, _, _ => none
  | n + 1, σ, x1, x2, x3 => if (σ.1 3 3) ≤ x3 then nm (x2 + 1) (fun v2 => k2 σ x1 v2) else ck 12 x2 (ck 40 x3 (nm (σ.1 (96 + Int32.toNatClampNeg x2) (Int32.toNatClampNeg x3)) (fun v4 => if v4 = 0 then fX6_handBack_76 τ (fX6_handBack_15 τ k2 n) σ x1 x2 x3 else ck 12 x2 (ck 40 x3 (nm (σ.1 (108 + Int32.toNatClampNeg x2) (Int32.toNatClampNeg x3)) (fun v6 => if v6 = x1 then ck 12 x2 (ck 40 x3 (nm (σ.1 (96 + Int32.toNatClampNeg x2) (Int32.toNatClampNeg x3)) (fun v8 => bs (fX6_takesGreater τ σ x1 x3 v8) (fun r9 σ10 => ck 12 x2 (ck 40 x3 (nm (ux_wI σ10 (96 + Int32.toNatClampNeg x2) (Int32.toNatClampNeg x3) 0) (fun σ13 => fX6_handBack_76 τ (fX6_handBack_15 τ k2 n) σ13 x1 x2 x3))))))) else fX6_handBack_76 τ (fX6_handBack_15 τ k2 n) σ x1 x2 x3))))))
noncomputable def fX6_handBack_2 (τ : Nat)  : Nat → S2 → Int32 → Int32 → Option (Unit × S2)
  | 0, _, _, _ => none
  | n + 1, σ, x1, x2 => if (σ.1 7 5) ≤ x2 then some ((), σ) else fX6_handBack_15 τ (fX6_handBack_2 τ n) FU σ x1 x2 0
noncomputable def fX6_handBack_0 (τ : Nat)  (σ : S2) (x1 : Int32) : Option (Unit × S2) := fX6_handBack_2 τ FU σ x1 0
noncomputable def fX6_handBack (τ : Nat) (σ : S2) (a1 : Int32) : Option (Unit × S2) := fX6_handBack_0 τ σ a1
noncomputable def fJ7_fill_53178_5 (τ : Nat) (c0 n0 : Nat)  : Nat → S2 → Int32 → Int32 → Int32 → Option (Unit × S2)
  | 0, _, _, _, _ => none
  | n + 1, σ, x1, x2, x3 => if x3 ≤ x2 then some ((), σ) else ck n0 x2 (nm (ux_wI σ c0 (Int32.toNatClampNeg x2) x1) (fun σ1 => nm (x2 + 1) (fun v2 => fJ7_fill_53178_5 τ c0 n0 n σ1 x1 v2 x3)))
noncomputable def fJ7_fill_53178_0 (τ : Nat) (c0 n0 : Nat)  (σ : S2) (x1 : Int32) : Option (Unit × S2) := nm (Int32.ofNat n0) (fun v3 => fJ7_fill_53178_5 τ c0 n0 FU σ x1 0 v3)
noncomputable def fJ7_fill_53178 (τ : Nat) (c0 n0 : Nat) (σ : S2) (a1 : Int32) : Option (Unit × S2) := fJ7_fill_53178_0 τ c0 n0 σ a1
noncomputable def fX6_empty_0 (τ : Nat)  (σ : S2) (x1 : Int32) : Option (Unit × S2) := ck 12 x1 (bs (fJ7_fill_53178 τ (84 + Int32.toNatClampNeg x1) 40 σ 0) (fun r2 σ3 => ck 12 x1 (bs (fJ7_fill_53178 τ (96 + Int32.toNatClampNeg x1) 40 σ3 0) (fun r6 σ7 => some ((), σ7)))))
noncomputable def fX6_empty (τ : Nat) (σ : S2) (a1 : Int32) : Option (Unit × S2) := fX6_empty_0 τ σ a1
noncomputable def fX6_greatestFor_75 (τ : Nat) (b1 : Nat) (k25 : S2 → Int32 → Int32 → Int32 → Option (Int32 × S2)) (σ : S2) (x2 : Int32) (x3 : Int32) (x4 : Int32) : Option (Int32 × S2) := nm (x4 + 1) (fun v1 => k25 σ x2 x3 v1)
noncomputable def fX6_greatestFor_25 (τ : Nat) (b1 : Nat)  : Nat → S2 → Int32 → Int32 → Int32 → Option (Int32 × S2)
  | 0, _, _, _, _ => none
  | n + 1, σ, x2, x3, x4 => if (σ.1 14 3) ≤ x4 then some (x3, σ) else ck 12 x4 (nm (σ.1 16 (Int32.toNatClampNeg x4)) (fun v2 => bi (fX2_isUp τ σ v2) (fun r3 => if r3 = 0 then fX6_greatestFor_75 τ b1 (fX6_greatestFor_25 τ b1 n) σ x2 x3 x4 else ck 12 v2 (ck 40 x2 (nm (σ.1 (84 + Int32.toNatClampNeg v2) (Int32.toNatClampNeg x2)) (fun v6 => nm (if x3 < v6 then v6 else x3) (fun v7 => fX6_greatestFor_75 τ b1 (fX6_greatestFor_25 τ b1 n) σ x2 v7 x4)))))))
noncomputable def fX6_greatestFor_0 (τ : Nat) (b1 : Nat)  (σ : S2) (x2 : Int32) : Option (Int32 × S2) := bi (fX4_placeOf τ σ x2 (σ.1 (182 + 6 * b1) 1)) (fun r8 => bs (fX1_choose τ b1 σ r8) (fun r10 σ11 => fX6_greatestFor_25 τ b1 FU σ11 x2 0 0))
noncomputable def fX6_greatestFor (τ : Nat) (b1 : Nat) (σ : S2) (a2 : Int32) : Option (Int32 × S2) := fX6_greatestFor_0 τ b1 σ a2
noncomputable def fX6_movePiece_22 (τ : Nat)  (σ : S2) (x1 : Int32) (x2 : Int32) : Option (Int32 × S2) := ck 12 x2 (ck 40 x1 (nm (ux_wI σ (120 + Int32.toNatClampNeg x2) (Int32.toNatClampNeg x1) 0) (fun σ2 => some (0, σ2))))
noncomputable def fX6_movePiece_54 (τ : Nat)  (σ : S2) (x1 : Int32) (x2 : Int32) (x3 : Int32) : Option (Int32 × S2) := ck 12 x2 (ck 40 x1 (nm (ux_wI σ (132 + Int32.toNatClampNeg x2) (Int32.toNatClampNeg x1) x3) (fun σ4 => ck 12 x2 (ck 40 x1 (nm (σ4.1 (120 + Int32.toNatClampNeg x2) (Int32.toNatClampNeg x1)) (fun v6 => ck 40 x1 (nm (ux_wI σ4 (120 + Int32.toNatClampNeg x2) (Int32.toNatClampNeg x1) (v6 + 1)) (fun σ7 => ck 12 x2 (ck 40 x1 (nm (σ7.1 (120 + Int32.toNatClampNeg x2) (Int32.toNatClampNeg x1)) (fun v9 => if 3 ≤ v9 then ck 12 x2 (ck 40 x1 (nm (σ7.1 (84 + Int32.toNatClampNeg x2) (Int32.toNatClampNeg x1)) (fun v11 => bs (fX6_takesGreater τ σ7 x3 x1 v11) (fun r12 σ13 => ck 12 x2 (ck 40 x1 (nm (ux_wI σ13 (84 + Int32.toNatClampNeg x2) (Int32.toNatClampNeg x1) 0) (fun σ16 => ck 12 x2 (ck 40 x1 (nm (ux_wI σ16 (120 + Int32.toNatClampNeg x2) (Int32.toNatClampNeg x1) 0) (fun σ18 => some (3, σ18))))))))))) else ck 12 x2 (ck 40 x1 (nm (σ7.1 (120 + Int32.toNatClampNeg x2) (Int32.toNatClampNeg x1)) (fun v20 => some (v20, σ7)))))))))))))))
noncomputable def fX6_movePiece_0 (τ : Nat)  (σ : S2) (x1 : Int32) (x2 : Int32) (x3 : Int32) : Option (Int32 × S2) := bi (fX2_isUp τ σ x2) (fun r21 => if r21 = 0 then fX6_movePiece_22 τ σ x1 x2 else bi (fX2_isUp τ σ x3) (fun r23 => if r23 = 0 then fX6_movePiece_22 τ σ x1 x2 else ck 12 x2 (ck 40 x1 (nm (σ.1 (132 + Int32.toNatClampNeg x2) (Int32.toNatClampNeg x1)) (fun v26 => if v26 = x3 then fX6_movePiece_54 τ σ x1 x2 x3 else ck 12 x2 (ck 40 x1 (nm (ux_wI σ (120 + Int32.toNatClampNeg x2) (Int32.toNatClampNeg x1) 0) (fun σ28 => fX6_movePiece_54 τ σ28 x1 x2 x3))))))))
noncomputable def fX6_movePiece (τ : Nat) (σ : S2) (a1 : Int32) (a2 : Int32) (a3 : Int32) : Option (Int32 × S2) := fX6_movePiece_0 τ σ a1 a2 a3
noncomputable def fX6_greatestAnywhere_40 (τ : Nat) (k4 : S2 → Int32 → Int32 → Int32 → Option Int32) (σ : S2) (x1 : Int32) (x2 : Int32) (x3 : Int32) : Option Int32 := nm (x3 + 1) (fun v1 => k4 σ x1 x2 v1)
noncomputable def fX6_greatestAnywhere_4 (τ : Nat)  : Nat → S2 → Int32 → Int32 → Int32 → Option Int32
  | 0, _, _, _, _ => none
  | n + 1, σ, x1, x2, x3 => if (σ.1 7 5) ≤ x3 then some (x2) else ck 12 x3 (nm (σ.1 12 (Int32.toNatClampNeg x3)) (fun v2 => if v2 = 0 then ck 12 x3 (ck 40 x1 (nm (σ.1 (84 + Int32.toNatClampNeg x3) (Int32.toNatClampNeg x1)) (fun v4 => nm (if x2 < v4 then v4 else x2) (fun v5 => fX6_greatestAnywhere_40 τ (fX6_greatestAnywhere_4 τ n) σ x1 v5 x3)))) else fX6_greatestAnywhere_40 τ (fX6_greatestAnywhere_4 τ n) σ x1 x2 x3))
noncomputable def fX6_greatestAnywhere_0 (τ : Nat)  (σ : S2) (x1 : Int32) : Option Int32 := fX6_greatestAnywhere_4 τ FU σ x1 0 0
noncomputable def fX6_greatestAnywhere (τ : Nat) (σ : S2) (a1 : Int32) : Option Int32 := fX6_greatestAnywhere_0 τ σ a1
noncomputable def fX6_mendAll_110 (τ : Nat) (b1 : Nat) (k4 : S2 → Int32 → Int32 → Option (Int32 × S2)) (σ : S2) (x2 : Int32) (x3 : Int32) : Option (Int32 × S2) := nm (x3 + 1) (fun v1 => k4 σ x2 v1)
noncomputable def fX6_mendAll_104 (τ : Nat) (b1 : Nat) (k53 : S2 → Int32 → Int32 → Int32 → Int32 → Option (Int32 × S2)) (σ : S2) (x2 : Int32) (x3 : Int32) (x4 : Int32) (x5 : Int32) : Option (Int32 × S2) := nm (x5 + 1) (fun v2 => k53 σ x2 x3 x4 v2)
noncomputable def fX6_mendAll_53 (τ : Nat) (b1 : Nat) (k4 : S2 → Int32 → Int32 → Option (Int32 × S2)) : Nat → S2 → Int32 → Int32 → Int32 → Int32 → Option (Int32 × S2)
  | 0, _, _, _, _, _ => none
  | n + 1, σ, x2, x3, x4, x5 => if (σ.1 14 3) ≤ x5 then fX6_mendAll_110 τ b1 k4 σ x2 x3 else ck 12 x5 (nm (σ.1 16 (Int32.toNatClampNeg x5)) (fun v3 => bi (fX2_isUp τ σ v3) (fun r4 => if r4 = 0 then fX6_mendAll_104 τ b1 (fX6_mendAll_53 τ b1 k4 n) σ x2 x3 x4 x5 else bs (fX6_receives τ σ v3 x3 x4) (fun r6 σ7 => if r6 = 0 then fX6_mendAll_104 τ b1 (fX6_mendAll_53 τ b1 k4 n) σ7 x2 x3 x4 x5 else nm (x2 + 1) (fun v9 => fX6_mendAll_104 τ b1 (fX6_mendAll_53 τ b1 k4 n) σ7 v9 x3 x4 x5)))))
noncomputable def fX6_mendAll_4 (τ : Nat) (b1 : Nat)  : Nat → S2 → Int32 → Int32 → Option (Int32 × S2)
  | 0, _, _, _ => none
  | n + 1, σ, x2, x3 => if (σ.1 3 3) ≤ x3 then some (x2, σ) else bi (fX6_greatestAnywhere τ σ x3) (fun r10 => if r10 = 0 then fX6_mendAll_110 τ b1 (fX6_mendAll_4 τ b1 n) σ x2 x3 else bi (fX4_placeOf τ σ x3 (σ.1 (182 + 6 * b1) 1)) (fun r12 => bs (fX1_choose τ b1 σ r12) (fun r14 σ15 => fX6_mendAll_53 τ b1 (fX6_mendAll_4 τ b1 n) FU σ15 x2 x3 r10 0)))
noncomputable def fX6_mendAll_0 (τ : Nat) (b1 : Nat)  (σ : S2)  : Option (Int32 × S2) := fX6_mendAll_4 τ b1 FU σ 0 0
noncomputable def fX6_mendAll (τ : Nat) (b1 : Nat) (σ : S2)  : Option (Int32 × S2) := fX6_mendAll_0 τ b1 σ
noncomputable def fX6_grow_51 (τ : Nat) (c1 n1 : Nat)  : Nat → S2 → Int32 → Option (Unit × S2)
  | 0, _, _ => none
  | n + 1, σ, x3 => if x3 < 1 then some ((), σ) else ck n1 (2 * x3) (nm (σ.1 c1 (Int32.toNatClampNeg (2 * x3))) (fun v1 => ck n1 ((2 * x3) + 1) (nm (σ.1 c1 (Int32.toNatClampNeg ((2 * x3) + 1))) (fun v2 => ck n1 x3 (nm (ux_wI σ c1 (Int32.toNatClampNeg x3) (v1 + v2)) (fun σ3 => nm (x3 + (-1)) (fun v4 => fX6_grow_51 τ c1 n1 n σ3 v4)))))))
noncomputable def fX6_grow_7 (τ : Nat) (c1 n1 : Nat)  : Nat → S2 → Int32 → Int32 → Option (Unit × S2)
  | 0, _, _, _ => none
  | n + 1, σ, x2, x3 => if (σ.1 3 3) ≤ x3 then fX6_grow_51 τ c1 n1 FU σ 7 else dz (8 : Int32) (ck n1 (8 + (x3 - x3 / 8 * 8)) (nm (σ.1 c1 (Int32.toNatClampNeg (8 + (x3 - x3 / 8 * 8)))) (fun v6 => ck 12 x2 (ck 40 x3 (nm (σ.1 (84 + Int32.toNatClampNeg x2) (Int32.toNatClampNeg x3)) (fun v8 => ck n1 (8 + (x3 - x3 / 8 * 8)) (nm (ux_wI σ c1 (Int32.toNatClampNeg (8 + (x3 - x3 / 8 * 8))) (v6 + ((x3 + 1) * v8))) (fun σ9 => nm (x3 + 1) (fun v10 => fX6_grow_7 τ c1 n1 n σ9 x2 v10)))))))))
noncomputable def fX6_grow_0 (τ : Nat) (c1 n1 : Nat)  (σ : S2) (x2 : Int32) : Option (Unit × S2) := bs (fJ7_fill_53178 τ c1 n1 σ 0) (fun r11 σ12 => fX6_grow_7 τ c1 n1 FU σ12 x2 0)
noncomputable def fX6_grow (τ : Nat) (c1 n1 : Nat) (σ : S2) (a2 : Int32) : Option (Unit × S2) := fX6_grow_0 τ c1 n1 σ a2
noncomputable def fX6_compare_0 (τ : Nat)  (σ : S2) (x1 : Int32) (x2 : Int32) : Option (Unit × S2) := bs (fX6_grow τ 25 16 σ x1) (fun r1 σ2 => bs (fX6_grow τ 26 16 σ2 x2) (fun r4 σ5 => some ((), σ5)))
noncomputable def fX6_compare (τ : Nat) (σ : S2) (a1 : Int32) (a2 : Int32) : Option (Unit × S2) := fX6_compare_0 τ σ a1 a2
noncomputable def fX6_wordsAsked_49 (τ : Nat) (k6 : S2 → Int32 → Int32 → Int32 → Option Int32) (σ : S2) (x1 : Int32) (x2 : Int32) (x3 : Int32) : Option Int32 := nm (x3 + 1) (fun v1 => k6 σ x1 x2 v1)
noncomputable def fX6_wordsAsked_6 (τ : Nat)  : Nat → S2 → Int32 → Int32 → Int32 → Option Int32
  | 0, _, _, _, _ => none
  | n + 1, σ, x1, x2, x3 => if 8 ≤ x3 then some (x1) else if ((x2 >>> (x3 &&& 31)) &&& 1) = 0 then fX6_wordsAsked_49 τ (fX6_wordsAsked_6 τ n) σ x1 x2 x3 else ck 16 x3 (nm (σ.1 25 (Int32.toNatClampNeg x3)) (fun v2 => ck 16 x3 (nm (σ.1 26 (Int32.toNatClampNeg x3)) (fun v3 => if v2 = v3 then fX6_wordsAsked_49 τ (fX6_wordsAsked_6 τ n) σ x1 x2 x3 else nm (x1 + 2) (fun v4 => nm (x2 ||| (3 <<< ((2 * x3) &&& 31))) (fun v5 => fX6_wordsAsked_49 τ (fX6_wordsAsked_6 τ n) σ v4 v5 x3))))))
noncomputable def fX6_wordsAsked_0 (τ : Nat)  (σ : S2)  : Option Int32 := fX6_wordsAsked_6 τ FU σ 1 2 1
noncomputable def fX6_wordsAsked (τ : Nat) (σ : S2)  : Option Int32 := fX6_wordsAsked_0 τ σ
noncomputable def fX6_unlikeLeaves_29 (τ : Nat) (k5 : S2 → Int32 → Int32 → Option Int32) (σ : S2) (x1 : Int32) (x2 : Int32) : Option Int32 := nm (x2 + 1) (fun v1 => k5 σ x1 v1)
noncomputable def fX6_unlikeLeaves_5 (τ : Nat)  : Nat → S2 → Int32 → Int32 → Option Int32
  | 0, _, _, _ => none
  | n + 1, σ, x1, x2 => if 16 ≤ x2 then some (x1) else ck 16 x2 (nm (σ.1 25 (Int32.toNatClampNeg x2)) (fun v2 => ck 16 x2 (nm (σ.1 26 (Int32.toNatClampNeg x2)) (fun v3 => if v2 = v3 then fX6_unlikeLeaves_29 τ (fX6_unlikeLeaves_5 τ n) σ x1 x2 else nm (x1 + 1) (fun v4 => fX6_unlikeLeaves_29 τ (fX6_unlikeLeaves_5 τ n) σ v4 x2)))))
noncomputable def fX6_unlikeLeaves_0 (τ : Nat)  (σ : S2)  : Option Int32 := fX6_unlikeLeaves_5 τ FU σ 0 8
noncomputable def fX6_unlikeLeaves (τ : Nat) (σ : S2)  : Option Int32 := fX6_unlikeLeaves_0 τ σ
noncomputable def fX6_keptBy_0 (τ : Nat)  (σ : S2) (x1 : Int32) : Option Int32 := ck 12 x1 (bi (fX6_filled τ (96 + Int32.toNatClampNeg x1) 40 σ) (fun r2 => some (r2)))
noncomputable def fX6_keptBy (τ : Nat) (σ : S2) (a1 : Int32) : Option Int32 := fX6_keptBy_0 τ σ a1
noncomputable def fX6_allCopies_4 (τ : Nat)  : Nat → S2 → Int32 → Int32 → Option Int32
  | 0, _, _, _ => none
  | n + 1, σ, x1, x2 => if (σ.1 7 5) ≤ x2 then some (x1) else bi (fX6_copiesOn τ σ x2) (fun r1 => nm (x1 + r1) (fun v3 => nm (x2 + 1) (fun v4 => fX6_allCopies_4 τ n σ v3 v4)))
noncomputable def fX6_allCopies_0 (τ : Nat)  (σ : S2)  : Option Int32 := fX6_allCopies_4 τ FU σ 0 0
noncomputable def fX6_allCopies (τ : Nat) (σ : S2)  : Option Int32 := fX6_allCopies_0 τ σ
noncomputable def fX6_allKept_4 (τ : Nat)  : Nat → S2 → Int32 → Int32 → Option Int32
  | 0, _, _, _ => none
  | n + 1, σ, x1, x2 => if (σ.1 7 5) ≤ x2 then some (x1) else bi (fX6_keptBy τ σ x2) (fun r1 => nm (x1 + r1) (fun v3 => nm (x2 + 1) (fun v4 => fX6_allKept_4 τ n σ v3 v4)))
noncomputable def fX6_allKept_0 (τ : Nat)  (σ : S2)  : Option Int32 := fX6_allKept_4 τ FU σ 0 0
noncomputable def fX6_allKept (τ : Nat) (σ : S2)  : Option Int32 := fX6_allKept_0 τ σ
noncomputable def fX7_holdKeeper_0 (τ : Nat)  (σ : S2) (x1 : Int32) (x2 : Int32) : Option (Unit × S2) := ck 6 x1 (nm (ux_wI σ 38 (Int32.toNatClampNeg x1) x2) (fun σ1 => ck 6 x1 (nm (ux_wI σ1 39 (Int32.toNatClampNeg x1) (-1)) (fun σ2 => ck 6 x1 (nm (ux_wI σ2 40 (Int32.toNatClampNeg x1) 0) (fun σ3 => some ((), σ3)))))))
noncomputable def fX7_holdKeeper (τ : Nat) (σ : S2) (a1 : Int32) (a2 : Int32) : Option (Unit × S2) := fX7_holdKeeper_0 τ σ a1 a2
noncomputable def fJ7_fill_d0a16_6 (τ : Nat) (c0 n0 : Nat)  : Nat → S2 → Int64 → Int32 → Int32 → Option (Unit × S2)
  | 0, _, _, _, _ => none
  | n + 1, σ, x1, x3, x4 => if x4 ≤ x3 then some ((), σ) else ck n0 x3 (nm (ux_wL σ c0 (Int32.toNatClampNeg x3) x1) (fun σ1 => nm (x3 + 1) (fun v2 => fJ7_fill_d0a16_6 τ c0 n0 n σ1 x1 v2 x4)))
noncomputable def fJ7_fill_d0a16_0 (τ : Nat) (c0 n0 : Nat)  (σ : S2) (x1 : Int64) : Option (Unit × S2) := nm (Int32.ofNat n0) (fun v3 => fJ7_fill_d0a16_6 τ c0 n0 FU σ x1 0 v3)
noncomputable def fJ7_fill_d0a16 (τ : Nat) (c0 n0 : Nat) (σ : S2) (a1 : Int64) : Option (Unit × S2) := fJ7_fill_d0a16_0 τ c0 n0 σ a1
noncomputable def fX7_holdRow_0 (τ : Nat)  (σ : S2) (x1 : Int32) (x2 : Int32) (x3 : Int32) : Option (Unit × S2) := ck 6 x1 (nm (ux_wI σ 38 (Int32.toNatClampNeg x1) (-1)) (fun σ1 => ck 6 x1 (nm (ux_wI σ1 39 (Int32.toNatClampNeg x1) x2) (fun σ2 => ck 6 x1 (nm (ux_wI σ2 40 (Int32.toNatClampNeg x1) x3) (fun σ3 => ck 6 x1 (bs (fJ7_fill_d0a16 τ (176 + Int32.toNatClampNeg x1) 60 σ3 0) (fun r5 σ6 => some ((), σ6)))))))))
noncomputable def fX7_holdRow (τ : Nat) (σ : S2) (a1 : Int32) (a2 : Int32) (a3 : Int32) : Option (Unit × S2) := fX7_holdRow_0 τ σ a1 a2 a3
noncomputable def fX7_isRow_0 (τ : Nat)  (σ : S2) (x1 : Int32) : Option Int32 := ck 6 x1 (nm (σ.1 39 (Int32.toNatClampNeg x1)) (fun v1 => if v1 = (-1) then some (0) else some (1)))
noncomputable def fX7_isRow (τ : Nat) (σ : S2) (a1 : Int32) : Option Int32 := fX7_isRow_0 τ σ a1
noncomputable def fX7_isEmpty_0 (τ : Nat)  (σ : S2) (x1 : Int32) : Option Int32 := ck 6 x1 (nm (σ.1 39 (Int32.toNatClampNeg x1)) (fun v1 => if v1 = (-1) then ck 6 x1 (nm (σ.1 38 (Int32.toNatClampNeg x1)) (fun v2 => if v2 = (-1) then some (1) else some (0))) else some (0)))
noncomputable def fX7_isEmpty (τ : Nat) (σ : S2) (a1 : Int32) : Option Int32 := fX7_isEmpty_0 τ σ a1
noncomputable def fX7_refusalAt_0 (τ : Nat)  (σ : S2) (x1 : Int32) (x2 : Int32) : Option Int32 := bi (fX7_isEmpty τ σ x1) (fun r1 => if r1 = 0 then bi (fX7_isRow τ σ x1) (fun r3 => if r3 = 0 then some ((-12)) else if x2 < 0 then some ((-13)) else ck 6 x1 (nm (σ.1 40 (Int32.toNatClampNeg x1)) (fun v5 => if v5 ≤ x2 then some ((-13)) else some (0)))) else some ((-11)))
noncomputable def fX7_refusalAt (τ : Nat) (σ : S2) (a1 : Int32) (a2 : Int32) : Option Int32 := fX7_refusalAt_0 τ σ a1 a2
noncomputable def fX7_spans_0 (τ : Nat)  (σ : S2) (x1 : Int32) (x2 : Int32) (x3 : Int32) : Option Int32 := if x2 < 0 then some (0) else if x3 < 0 then some (0) else ck 6 x1 (nm (σ.1 40 (Int32.toNatClampNeg x1)) (fun v1 => if v1 < x2 then some (0) else ck 6 x1 (nm (σ.1 40 (Int32.toNatClampNeg x1)) (fun v2 => if (v2 - x2) < x3 then some (0) else some (1)))))
noncomputable def fX7_spans (τ : Nat) (σ : S2) (a1 : Int32) (a2 : Int32) (a3 : Int32) : Option Int32 := fX7_spans_0 τ σ a1 a2 a3
noncomputable def fX7_lowest_0 (τ : Nat)  (σ : S2) (x0 : Int32) (x1 : Int64) : Option Int64 := if x0 = 0 then some (Int32.toInt64 (Int8.toInt32 (Int32.toInt8 (Int64.toInt32 x1)))) else if x0 = 1 then some (Int32.toInt64 (Int16.toInt32 (Int32.toInt16 (Int64.toInt32 x1)))) else if x0 = 2 then some (Int32.toInt64 (Int64.toInt32 x1)) else if x0 = 3 then some (x1) else if x0 = 4 then if (lg_cmp x1 0) = 0 then some (0) else some (1) else some (x1)
noncomputable def fX7_lowest (τ : Nat) (σ : S2) (a0 : Int32) (a1 : Int64) : Option Int64 := fX7_lowest_0 τ σ a0 a1
noncomputable def fX8_takeMembers_36 (τ : Nat) (b0 : Nat) (k7 : S2 → Int32 → Int32 → Option (Unit × S2)) (σ : S2) (x1 : Int32) (x3 : Int32) (s0 : Int32) (s1 : Int32) : Option (Unit × S2) := ck 12 s1 (nm (ux_wI σ (182 + 6 * b0 + 1) (Int32.toNatClampNeg s1) s0) (fun σ1 => nm (x3 + 1) (fun v2 => k7 σ1 x1 v2)))
noncomputable def fX8_takeMembers_7 (τ : Nat) (b0 : Nat)  : Nat → S2 → Int32 → Int32 → Option (Unit × S2)
  | 0, _, _, _ => none
  | n + 1, σ, x1, x3 => if 12 ≤ x3 then some ((), σ) else if ((x1 >>> (x3 &&& 31)) &&& 1) = 1 then bi (fX2_counting τ σ x3) (fun r3 => fX8_takeMembers_36 τ b0 (fX8_takeMembers_7 τ b0 n) σ x1 x3 r3 x3) else fX8_takeMembers_36 τ b0 (fX8_takeMembers_7 τ b0 n) σ x1 x3 0 x3
noncomputable def fX8_takeMembers_0 (τ : Nat) (b0 : Nat)  (σ : S2) (x1 : Int32) : Option (Unit × S2) := nm (ux_wI σ (182 + 6 * b0) 0 x1) (fun σ5 => fX8_takeMembers_7 τ b0 FU σ5 x1 0)
noncomputable def fX8_takeMembers (τ : Nat) (b0 : Nat) (σ : S2) (a1 : Int32) : Option (Unit × S2) := fX8_takeMembers_0 τ b0 σ a1
noncomputable def fX8_firstFor_70 (τ : Nat) (b0 : Nat) (k27 : S2 → Int32 → Int32 → Int32 → Int32 → Option Int32) (σ : S2) (x1 : Int32) (x2 : Int32) (x3 : Int32) (x4 : Int32) : Option Int32 := nm (x4 + 1) (fun v1 => k27 σ x1 x2 x3 v1)
noncomputable def fX8_firstFor_27 (τ : Nat) (b0 : Nat)  : Nat → S2 → Int32 → Int32 → Int32 → Int32 → Option Int32
  | 0, _, _, _, _, _ => none
  | n + 1, σ, x1, x2, x3, x4 => if 12 ≤ x4 then some (x2) else if (((σ.1 (182 + 6 * b0) 0) >>> (x4 &&& 31)) &&& 1) = 0 then fX8_firstFor_70 τ b0 (fX8_firstFor_27 τ b0 n) σ x1 x2 x3 x4 else bi (fX8_sumOf τ b0 σ x4 x1) (fun r2 => if r2 ≤ x3 then fX8_firstFor_70 τ b0 (fX8_firstFor_27 τ b0 n) σ x1 x2 x3 x4 else fX8_firstFor_70 τ b0 (fX8_firstFor_27 τ b0 n) σ x1 x4 r2 x4)
noncomputable def fX8_firstFor_0 (τ : Nat) (b0 : Nat)  (σ : S2) (x1 : Int32) : Option Int32 := if (σ.1 (182 + 6 * b0) 4) = 1 then fX8_firstFor_27 τ b0 FU σ x1 (-1) (-1) 0 else ck 1000 x1 (nm (σ.1 (182 + 6 * b0 + 5) (Int32.toNatClampNeg x1)) (fun v4 => ck 1000 v4 (nm (σ.1 (182 + 6 * b0 + 4) (Int32.toNatClampNeg v4)) (fun v5 => some (v5)))))
noncomputable def fX8_firstFor (τ : Nat) (b0 : Nat) (σ : S2) (a1 : Int32) : Option Int32 := fX8_firstFor_0 τ b0 σ a1
noncomputable def fX8_countOdds_51 (τ : Nat) (b0 : Nat) (k18 : S2 → Int32 → Option (Unit × S2)) (σ : S2) (x1 : Int32) : Option (Unit × S2) := nm (x1 + 1) (fun v1 => k18 σ v1)
noncomputable def fX8_countOdds_18 (τ : Nat) (b0 : Nat)  : Nat → S2 → Int32 → Option (Unit × S2)
  | 0, _, _ => none
  | n + 1, σ, x1 => if 1000 ≤ x1 then nm (ux_wI σ (182 + 6 * b0) 7 1) (fun σ2 => some ((), σ2)) else bi (fX8_firstFor τ b0 σ x1) (fun r3 => if r3 < 0 then fX8_countOdds_51 τ b0 (fX8_countOdds_18 τ b0 n) σ x1 else if 12 ≤ r3 then fX8_countOdds_51 τ b0 (fX8_countOdds_18 τ b0 n) σ x1 else ck 12 r3 (nm (σ.1 (182 + 6 * b0 + 2) (Int32.toNatClampNeg r3)) (fun v5 => ck 12 r3 (nm (ux_wI σ (182 + 6 * b0 + 2) (Int32.toNatClampNeg r3) (v5 + 1)) (fun σ6 => fX8_countOdds_51 τ b0 (fX8_countOdds_18 τ b0 n) σ6 x1)))))
noncomputable def fX8_countOdds_0 (τ : Nat) (b0 : Nat)  (σ : S2)  : Option (Unit × S2) := if (σ.1 (182 + 6 * b0) 7) = 0 then bs (fJ7_fill_53178 τ (182 + 6 * b0 + 2) 12 σ 0) (fun r7 σ8 => fX8_countOdds_18 τ b0 FU σ8 0) else some ((), σ)
noncomputable def fX8_countOdds (τ : Nat) (b0 : Nat) (σ : S2)  : Option (Unit × S2) := fX8_countOdds_0 τ b0 σ
noncomputable def fX8_unevenness_54 (τ : Nat) (b0 : Nat) (k12 : S2 → Int32 → Int32 → Int32 → Option (Int32 × S2)) (σ : S2) (x1 : Int32) (x2 : Int32) (x3 : Int32) : Option (Int32 × S2) := nm (x3 + 1) (fun v1 => k12 σ x1 x2 v1)
noncomputable def fX8_unevenness_12 (τ : Nat) (b0 : Nat)  : Nat → S2 → Int32 → Int32 → Int32 → Option (Int32 × S2)
  | 0, _, _, _, _ => none
  | n + 1, σ, x1, x2, x3 => if 12 ≤ x3 then some (x2 - x1, σ) else if (((σ.1 (182 + 6 * b0) 0) >>> (x3 &&& 31)) &&& 1) = 0 then fX8_unevenness_54 τ b0 (fX8_unevenness_12 τ b0 n) σ x1 x2 x3 else ck 12 x3 (nm (σ.1 (182 + 6 * b0 + 2) (Int32.toNatClampNeg x3)) (fun v2 => nm (if v2 < x1 then v2 else x1) (fun v3 => ck 12 x3 (nm (σ.1 (182 + 6 * b0 + 2) (Int32.toNatClampNeg x3)) (fun v4 => nm (if x2 < v4 then v4 else x2) (fun v5 => fX8_unevenness_54 τ b0 (fX8_unevenness_12 τ b0 n) σ v3 v5 x3))))))
noncomputable def fX8_unevenness_0 (τ : Nat) (b0 : Nat)  (σ : S2)  : Option (Int32 × S2) := bs (fX8_countOdds τ b0 σ) (fun r6 σ7 => fX8_unevenness_12 τ b0 FU σ7 1000 0 0)
noncomputable def fX8_unevenness (τ : Nat) (b0 : Nat) (σ : S2)  : Option (Int32 × S2) := fX8_unevenness_0 τ b0 σ
noncomputable def fX8_alikeIn_41 (τ : Nat) (b0 : Nat) (b1 : Nat) (k12 : S2 → Int32 → Int32 → Option Int32) (σ : S2) (x2 : Int32) (x3 : Int32) : Option Int32 := nm (x3 + 1) (fun v1 => k12 σ x2 v1)
noncomputable def fX8_alikeIn_12 (τ : Nat) (b0 : Nat) (b1 : Nat)  : Nat → S2 → Int32 → Int32 → Option Int32
  | 0, _, _, _ => none
  | n + 1, σ, x2, x3 => if 12 ≤ x3 then some (x2) else ck 12 x3 (nm (σ.1 (182 + 6 * b0 + 1) (Int32.toNatClampNeg x3)) (fun v2 => ck 12 x3 (nm (σ.1 (182 + 6 * b1 + 1) (Int32.toNatClampNeg x3)) (fun v3 => if v2 = v3 then fX8_alikeIn_41 τ b0 b1 (fX8_alikeIn_12 τ b0 b1 n) σ x2 x3 else nm (x2 &&& ((1 <<< (x3 &&& 31)) ^^^ (-1))) (fun v4 => fX8_alikeIn_41 τ b0 b1 (fX8_alikeIn_12 τ b0 b1 n) σ v4 x3)))))
noncomputable def fX8_alikeIn_0 (τ : Nat) (b0 : Nat) (b1 : Nat)  (σ : S2)  : Option Int32 := nm ((σ.1 (182 + 6 * b0) 0) &&& (σ.1 (182 + 6 * b1) 0)) (fun v5 => fX8_alikeIn_12 τ b0 b1 FU σ v5 0)
noncomputable def fX8_alikeIn (τ : Nat) (b0 : Nat) (b1 : Nat) (σ : S2)  : Option Int32 := fX8_alikeIn_0 τ b0 b1 σ
noncomputable def fX9_append_2 (τ : Nat)  : Nat → S2 → Int32 → Int32 → Int32 → Option (Unit × S2)
  | 0, _, _, _, _ => none
  | n + 1, σ, x1, x2, x3 => if x1 ≤ x3 then some ((), σ) else if 80 ≤ (σ.1 1 1) then some ((), σ) else ck 80 (σ.1 1 1) (nm (ux_wI σ 2 (Int32.toNatClampNeg (σ.1 1 1)) (vp_nar .byte (Int8.toInt32 (Int32.toInt8 (UInt32.toInt32 (Int32.toUInt32 x2 >>> (Int32.toUInt32 (8 * x3) &&& Int32.toUInt32 31))))))) (fun σ1 => nm (ux_wI σ1 1 1 ((σ1.1 1 1) + 1)) (fun σ2 => nm (x3 + 1) (fun v3 => fX9_append_2 τ n σ2 x1 x2 v3))))
noncomputable def fX9_append_0 (τ : Nat)  (σ : S2) (x1 : Int32) (x2 : Int32) : Option (Unit × S2) := fX9_append_2 τ FU σ x1 x2 0
noncomputable def fX9_append (τ : Nat) (σ : S2) (a1 : Int32) (a2 : Int32) : Option (Unit × S2) := fX9_append_0 τ σ a1 a2
noncomputable def fX10_greatestShare_79 (τ : Nat) (b1 : Nat) (k12 : S2 → Int32 → Int32 → Option (Int32 × S2)) (σ : S2) (x2 : Int32) (x3 : Int32) : Option (Int32 × S2) := nm (x3 + 1) (fun v1 => k12 σ x2 v1)
noncomputable def fX10_greatestShare_12 (τ : Nat) (b1 : Nat)  : Nat → S2 → Int32 → Int32 → Option (Int32 × S2)
  | 0, _, _, _ => none
  | n + 1, σ, x2, x3 => if (σ.1 3 3) ≤ x3 then some (x2, σ) else bi (fX4_placeOf τ σ x3 (σ.1 (182 + 6 * b1) 1)) (fun r2 => bi (fX8_firstFor τ b1 σ r2) (fun r4 => if r4 < 0 then fX10_greatestShare_79 τ b1 (fX10_greatestShare_12 τ b1 n) σ x2 x3 else if r4 < 12 then ck 12 r4 (nm (σ.1 34 (Int32.toNatClampNeg r4)) (fun v6 => ck 12 r4 (nm (ux_wI σ 34 (Int32.toNatClampNeg r4) (v6 + 1)) (fun σ7 => ck 12 r4 (nm (σ7.1 34 (Int32.toNatClampNeg r4)) (fun v8 => nm (if x2 < v8 then v8 else x2) (fun v9 => fX10_greatestShare_79 τ b1 (fX10_greatestShare_12 τ b1 n) σ7 v9 x3))))))) else fX10_greatestShare_79 τ b1 (fX10_greatestShare_12 τ b1 n) σ x2 x3))
noncomputable def fX10_greatestShare_0 (τ : Nat) (b1 : Nat)  (σ : S2)  : Option (Int32 × S2) := bs (fJ7_fill_53178 τ 34 12 σ 0) (fun r10 σ11 => fX10_greatestShare_12 τ b1 FU σ11 0 0)
noncomputable def fX10_greatestShare (τ : Nat) (b1 : Nat) (σ : S2)  : Option (Int32 × S2) := fX10_greatestShare_0 τ b1 σ
noncomputable def fX10_leastHarm_60 (τ : Nat) (b1 : Nat) (k10 : S2 → Int32 → Int32 → Option (Int32 × S2)) (σ : S2) (x3 : Int32) (x4 : Int32) : Option (Int32 × S2) := nm (x4 + 1) (fun v1 => k10 σ x3 v1)
noncomputable def fX10_leastHarm_51 (τ : Nat) (b1 : Nat) (k10 : S2 → Int32 → Int32 → Option (Int32 × S2)) (σ : S2) (x4 : Int32) (x5 : Int32) : Option (Int32 × S2) := nm (ux_wI σ 32 2 x5) (fun σ2 => fX10_leastHarm_60 τ b1 k10 σ2 x4 x4)
noncomputable def fX10_leastHarm_10 (τ : Nat) (b1 : Nat)  : Nat → S2 → Int32 → Int32 → Option (Int32 × S2)
  | 0, _, _, _ => none
  | n + 1, σ, x3, x4 => if (σ.1 32 1) ≤ x4 then nm (ux_wI σ 32 1 0) (fun σ3 => some (x3, σ3)) else ck 6 x4 (nm (σ.1 33 (Int32.toNatClampNeg x4)) (fun v4 => bs (fX8_seatAll τ 0 σ v4) (fun r5 σ6 => bs (fX10_greatestShare τ 0 σ6) (fun r8 σ9 => if x3 = (-1) then fX10_leastHarm_51 τ b1 (fX10_leastHarm_10 τ b1 n) σ9 x4 r8 else if (σ9.1 32 2) ≤ r8 then fX10_leastHarm_60 τ b1 (fX10_leastHarm_10 τ b1 n) σ9 x3 x4 else fX10_leastHarm_51 τ b1 (fX10_leastHarm_10 τ b1 n) σ9 x4 r8))))
noncomputable def fX10_leastHarm_0 (τ : Nat) (b1 : Nat)  (σ : S2)  : Option (Int32 × S2) := bs (fX8_takeAll τ 0 b1 σ) (fun r11 σ12 => fX10_leastHarm_10 τ b1 FU σ12 (-1) 0)
noncomputable def fX10_leastHarm (τ : Nat) (b1 : Nat) (σ : S2)  : Option (Int32 × S2) := fX10_leastHarm_0 τ b1 σ
noncomputable def fX11_feed_0 (τ : Nat)  (σ : S2) (x1 : Int32) (x2 : Int32) : Option (Int32 × S2) := if x1 < 1 then some ((-1), σ) else if x1 ≤ 4 then if ((σ.1 1 1) + x1) ≤ 80 then bs (fX9_append τ σ x1 x2) (fun r1 σ2 => some (σ2.1 1 1, σ2)) else some ((-3), σ) else some ((-1), σ)
noncomputable def fX11_feed (τ : Nat) (σ : S2) (a1 : Int32) (a2 : Int32) : Option (Int32 × S2) := fX11_feed_0 τ σ a1 a2
noncomputable def fX11_name_91 (τ : Nat)  (σ : S2) (x1 : Int32) : Option (Int32 × S2) := nm (ux_wI σ 1 1 0) (fun σ1 => some (x1, σ1))
noncomputable def fX11_name_0 (τ : Nat)  (σ : S2)  : Option (Int32 × S2) := if (σ.1 1 1) < 1 then some ((-1), σ) else if (σ.1 1 1) ≤ 6 then bi (fX4_find τ 2 80 σ 0 (σ.1 1 1)) (fun r2 => if r2 = (-1) then if (σ.1 3 3) < 40 then bs (fX4_add τ 2 80 σ 0 (σ.1 1 1)) (fun r4 σ5 => fX11_name_91 τ σ5 r4) else some ((-3), σ) else fX11_name_91 τ σ r2) else some ((-1), σ)
noncomputable def fX11_name (τ : Nat) (σ : S2)  : Option (Int32 × S2) := fX11_name_0 τ σ
noncomputable def fX11_number_0 (τ : Nat)  (σ : S2) (x1 : Int32) (x2 : Int32) : Option Int32 := bi (fX4_has τ σ x1) (fun r1 => if r1 = 0 then some ((-1)) else bi (fX4_placeOf τ σ x1 x2) (fun r3 => some (r3)))
noncomputable def fX11_number (τ : Nat) (σ : S2) (a1 : Int32) (a2 : Int32) : Option Int32 := fX11_number_0 τ σ a1 a2
noncomputable def fX11_isStrength_0 (τ : Nat)  (σ : S2) (x0 : Int32) : Option Int32 := if x0 < 1 then some (0) else if 8 < x0 then some (0) else some (1)
noncomputable def fX11_isStrength (τ : Nat) (σ : S2) (a0 : Int32) : Option Int32 := fX11_isStrength_0 τ σ a0
noncomputable def fX11_keeper_0 (τ : Nat)  (σ : S2) (x1 : Int32) (x2 : Int32) : Option (Int32 × S2) := if x1 < 0 then some ((-1), σ) else if 5 < x1 then some ((-1), σ) else bi (fX11_isStrength τ σ x2) (fun r1 => if r1 = 0 then some ((-1), σ) else if (σ.1 7 5) < 12 then bs (fX2_add τ σ x1 x2) (fun r3 σ4 => some (r3, σ4)) else some ((-3), σ))
noncomputable def fX11_keeper (τ : Nat) (σ : S2) (a1 : Int32) (a2 : Int32) : Option (Int32 × S2) := fX11_keeper_0 τ σ a1 a2
noncomputable def fX11_isKind_0 (τ : Nat)  (σ : S2) (x0 : Int32) : Option Int32 := if x0 < 0 then some (0) else if 6 < x0 then some (0) else some (1)
noncomputable def fX11_isKind (τ : Nat) (σ : S2) (a0 : Int32) : Option Int32 := fX11_isKind_0 τ σ a0
noncomputable def fX11_become_0 (τ : Nat)  (σ : S2) (x1 : Int32) (x2 : Int32) : Option (Int32 × S2) := bi (fX2_has τ σ x1) (fun r1 => if r1 = 0 then some ((-1), σ) else bi (fX11_isKind τ σ x2) (fun r3 => if r3 = 0 then some ((-1), σ) else ck 12 x1 (nm (σ.1 8 (Int32.toNatClampNeg x1)) (fun v5 => ck 12 x1 (nm (ux_wI σ 8 (Int32.toNatClampNeg x1) x2) (fun σ6 => if v5 = 4 then if x2 = 4 then some (v5, σ6) else bs (fX6_handBack τ σ6 x1) (fun r7 σ8 => some (v5, σ8)) else some (v5, σ6)))))))
noncomputable def fX11_become (τ : Nat) (σ : S2) (a1 : Int32) (a2 : Int32) : Option (Int32 × S2) := fX11_become_0 τ σ a1 a2
noncomputable def fX11_strength_0 (τ : Nat)  (σ : S2) (x1 : Int32) (x2 : Int32) : Option (Int32 × S2) := bi (fX2_has τ σ x1) (fun r1 => if r1 = 0 then some ((-1), σ) else bi (fX11_isStrength τ σ x2) (fun r3 => if r3 = 0 then some ((-1), σ) else ck 12 x1 (nm (σ.1 10 (Int32.toNatClampNeg x1)) (fun v5 => ck 12 x1 (nm (ux_wI σ 10 (Int32.toNatClampNeg x1) x2) (fun σ6 => some (v5, σ6)))))))
noncomputable def fX11_strength (τ : Nat) (σ : S2) (a1 : Int32) (a2 : Int32) : Option (Int32 × S2) := fX11_strength_0 τ σ a1 a2
noncomputable def fX11_ofKeeper_0 (τ : Nat)  (σ : S2) (x1 : Int32) (x2 : Int32) : Option Int32 := bi (fX2_has τ σ x1) (fun r1 => if r1 = 0 then some ((-2000000000)) else if x2 = 0 then ck 12 x1 (nm (σ.1 8 (Int32.toNatClampNeg x1)) (fun v4 => some (v4))) else if x2 = 1 then ck 12 x1 (nm (σ.1 9 (Int32.toNatClampNeg x1)) (fun v6 => some (v6))) else if x2 = 2 then ck 12 x1 (nm (σ.1 10 (Int32.toNatClampNeg x1)) (fun v8 => some (v8))) else if x2 = 3 then bi (fX2_counting τ σ x1) (fun r10 => some (r10)) else if x2 = 4 then ck 12 x1 (nm (σ.1 11 (Int32.toNatClampNeg x1)) (fun v13 => some (v13))) else if x2 = 5 then bi (fX6_copiesOn τ σ x1) (fun r15 => some (r15)) else if x2 = 6 then bi (fX6_keptBy τ σ x1) (fun r18 => some (r18)) else if x2 = 7 then ck 12 x1 (nm (σ.1 12 (Int32.toNatClampNeg x1)) (fun v21 => if v21 = 0 then some (0) else some (1))) else some ((-2000000000)))
noncomputable def fX11_ofKeeper (τ : Nat) (σ : S2) (a1 : Int32) (a2 : Int32) : Option Int32 := fX11_ofKeeper_0 τ σ a1 a2
noncomputable def fX11_ofTable_0 (τ : Nat)  (σ : S2) (x1 : Int32) (x2 : Int32) : Option (Int32 × S2) := bt (fX11_tableAt τ σ x1) (some ((-1), σ)) (fun b2 => if x2 = 0 then some (σ.1 (182 + 6 * b2) 0, σ) else if x2 = 1 then some (σ.1 (182 + 6 * b2) 5, σ) else if x2 = 2 then some (σ.1 (182 + 6 * b2) 2, σ) else if x2 = 3 then some (σ.1 (182 + 6 * b2) 3, σ) else if x2 = 4 then some (σ.1 (182 + 6 * b2) 4, σ) else if x2 = 5 then bs (fX8_unevenness τ b2 σ) (fun r9 σ10 => some (r9, σ10)) else some ((-1), σ))
noncomputable def fX11_ofTable (τ : Nat) (σ : S2) (a1 : Int32) (a2 : Int32) : Option (Int32 × S2) := fX11_ofTable_0 τ σ a1 a2
noncomputable def fX11_isPlace_0 (τ : Nat)  (σ : S2) (x0 : Int32) : Option Int32 := if x0 < 0 then some (0) else if 1000 ≤ x0 then some (0) else some (1)
noncomputable def fX11_isPlace (τ : Nat) (σ : S2) (a0 : Int32) : Option Int32 := fX11_isPlace_0 τ σ a0
noncomputable def fX11_seat_0 (τ : Nat)  (σ : S2) (x1 : Int32) (x2 : Int32) : Option Int32 := bt (fX11_tableAt τ σ x1) (some ((-1))) (fun b2 => bi (fX11_isPlace τ σ x2) (fun r3 => if r3 = 0 then some ((-1)) else ck 1000 x2 (nm (σ.1 (182 + 6 * b2 + 4) (Int32.toNatClampNeg x2)) (fun v5 => if v5 = (-1) then some ((-2)) else ck 1000 x2 (nm (σ.1 (182 + 6 * b2 + 4) (Int32.toNatClampNeg x2)) (fun v6 => some (v6)))))))
noncomputable def fX11_seat (τ : Nat) (σ : S2) (a1 : Int32) (a2 : Int32) : Option Int32 := fX11_seat_0 τ σ a1 a2
noncomputable def fX11_picked_0 (τ : Nat)  (σ : S2) (x1 : Int32) (x2 : Int32) (x3 : Int32) : Option (Int32 × S2) := bt (fX11_tableAt τ σ x1) (some ((-1), σ)) (fun b2 => bi (fX11_isPlace τ σ x2) (fun r3 => if r3 = 0 then some ((-1), σ) else if 0 ≤ x3 then bs (fX1_pick τ b2 σ x2) (fun r5 σ6 => if (σ6.1 14 2) ≤ x3 then some ((-1), σ6) else ck 12 x3 (nm (σ6.1 15 (Int32.toNatClampNeg x3)) (fun v8 => some (v8, σ6)))) else some ((-1), σ)))
noncomputable def fX11_picked (τ : Nat) (σ : S2) (a1 : Int32) (a2 : Int32) (a3 : Int32) : Option (Int32 × S2) := fX11_picked_0 τ σ a1 a2 a3
noncomputable def fX11_keeperOf_0 (τ : Nat)  (σ : S2) (x1 : Int32) (x2 : Int32) (x3 : Int32) : Option (Int32 × S2) := bt (fX11_tableAt τ σ x1) (some ((-1), σ)) (fun b2 => bi (fX4_has τ σ x2) (fun r3 => if r3 = 0 then some ((-1), σ) else if (-1) ≤ x3 then bi (fX4_placeOf τ σ x2 (σ.1 (182 + 6 * b2) 1)) (fun r5 => bs (fX1_choose τ b2 σ r5) (fun r7 σ8 => if x3 = (-1) then some (σ8.1 14 3, σ8) else if (σ8.1 14 3) ≤ x3 then some ((-1), σ8) else ck 12 x3 (nm (σ8.1 16 (Int32.toNatClampNeg x3)) (fun v10 => some (v10, σ8))))) else some ((-1), σ)))
noncomputable def fX11_keeperOf (τ : Nat) (σ : S2) (a1 : Int32) (a2 : Int32) (a3 : Int32) : Option (Int32 × S2) := fX11_keeperOf_0 τ σ a1 a2 a3
noncomputable def fX11_tooFew_70 (τ : Nat) (k17 : S2 → Nat → Int32 → Int32 → Option (Int32 × S2)) (σ : S2) (x2 : Nat) (x3 : Int32) (x4 : Int32) : Option (Int32 × S2) := nm (x4 + 1) (fun v1 => k17 σ x2 x3 v1)
noncomputable def fX11_tooFew_17 (τ : Nat)  : Nat → S2 → Nat → Int32 → Int32 → Option (Int32 × S2)
  | 0, _, _, _, _ => none
  | n + 1, σ, x2, x3, x4 => if (σ.1 3 3) ≤ x4 then some (x3, σ) else bi (fX4_placeOf τ σ x4 (σ.1 (182 + 6 * x2) 1)) (fun r2 => bs (fX1_choose τ x2 σ r2) (fun r4 σ5 => bi (fJ6_bitCount_0f7a4 τ σ5 (σ5.1 14 5)) (fun r7 => if (σ5.1 (182 + 6 * x2) 3) ≤ r7 then fX11_tooFew_70 τ (fX11_tooFew_17 τ n) σ5 x2 x3 x4 else nm (x3 + 1) (fun v9 => fX11_tooFew_70 τ (fX11_tooFew_17 τ n) σ5 x2 v9 x4))))
noncomputable def fX11_tooFew_0 (τ : Nat)  (σ : S2) (x1 : Int32) : Option (Int32 × S2) := bt (fX11_tableAt τ σ x1) (some ((-1), σ)) (fun b11 => fX11_tooFew_17 τ FU σ b11 0 0)
noncomputable def fX11_tooFew (τ : Nat) (σ : S2) (a1 : Int32) : Option (Int32 × S2) := fX11_tooFew_0 τ σ a1
noncomputable def fX11_share_96 (τ : Nat) (k58 : S2 → Int32 → Nat → Int32 → Int32 → Option (Int32 × S2)) (σ : S2) (x2 : Int32) (x4 : Nat) (x5 : Int32) (x6 : Int32) : Option (Int32 × S2) := nm (x6 + 1) (fun v1 => k58 σ x2 x4 x5 v1)
noncomputable def fX11_share_58 (τ : Nat)  : Nat → S2 → Int32 → Nat → Int32 → Int32 → Option (Int32 × S2)
  | 0, _, _, _, _, _ => none
  | n + 1, σ, x2, x4, x5, x6 => if (σ.1 3 3) ≤ x6 then some (x5, σ) else bi (fX4_placeOf τ σ x6 (σ.1 (182 + 6 * x4) 1)) (fun r2 => bi (fX8_firstFor τ x4 σ r2) (fun r4 => if r4 = x2 then nm (x5 + 1) (fun v6 => fX11_share_96 τ (fX11_share_58 τ n) σ x2 x4 v6 x6) else fX11_share_96 τ (fX11_share_58 τ n) σ x2 x4 x5 x6))
noncomputable def fX11_share_0 (τ : Nat)  (σ : S2) (x1 : Int32) (x2 : Int32) (x3 : Int32) : Option (Int32 × S2) := bt (fX11_tableAt τ σ x1) (some ((-1), σ)) (fun b8 => bi (fX2_has τ σ x2) (fun r9 => if r9 = 0 then some ((-1), σ) else if x3 < 0 then some ((-1), σ) else if x3 ≤ 1 then if x3 = 1 then bs (fX8_countOdds τ b8 σ) (fun r11 σ12 => ck 12 x2 (nm (σ12.1 (182 + 6 * b8 + 2) (Int32.toNatClampNeg x2)) (fun v14 => some (v14, σ12)))) else fX11_share_58 τ FU σ x2 b8 0 0 else some ((-1), σ)))
noncomputable def fX11_share (τ : Nat) (σ : S2) (a1 : Int32) (a2 : Int32) (a3 : Int32) : Option (Int32 × S2) := fX11_share_0 τ σ a1 a2 a3
noncomputable def fX11_moves_157 (τ : Nat) (k50 : S2 → Int32 → Nat → Nat → Int32 → Int32 → Int32 → Option (Int32 × S2)) (σ : S2) (x3 : Int32) (x4 : Nat) (x5 : Nat) (x6 : Int32) (x7 : Int32) (x8 : Int32) (x10 : Int32) : Option (Int32 × S2) := bi (fJ6_bitCount_0f7a4 τ σ x10) (fun r1 => nm (x7 + r1) (fun v3 => nm (x8 + 1) (fun v4 => k50 σ x3 x4 x5 x6 v3 v4)))
noncomputable def fX11_moves_155 (τ : Nat) (k50 : S2 → Int32 → Nat → Nat → Int32 → Int32 → Int32 → Option (Int32 × S2)) (σ : S2) (x3 : Int32) (x4 : Nat) (x5 : Nat) (x6 : Int32) (x7 : Int32) (x8 : Int32) (s0 : Int32) : Option (Int32 × S2) := fX11_moves_157 τ k50 σ x3 x4 x5 x6 x7 x8 s0
noncomputable def fX11_moves_50 (τ : Nat)  : Nat → S2 → Int32 → Nat → Nat → Int32 → Int32 → Int32 → Option (Int32 × S2)
  | 0, _, _, _, _, _, _, _ => none
  | n + 1, σ, x3, x4, x5, x6, x7, x8 => if (σ.1 3 3) ≤ x8 then some (x7, σ) else bi (fX4_placeOf τ σ x8 (σ.1 (182 + 6 * x4) 1)) (fun r5 => bs (fX1_choose τ x4 σ r5) (fun r7 σ8 => nm (σ8.1 14 4) (fun v10 => bi (fX4_placeOf τ σ8 x8 (σ8.1 (182 + 6 * x5) 1)) (fun r11 => bs (fX1_choose τ x5 σ8 r11) (fun r13 σ14 => nm ((σ14.1 14 4) &&& (v10 ^^^ (-1))) (fun v16 => if x3 = 1 then if (v10 &&& (x6 ^^^ (-1))) = 0 then fX11_moves_155 τ (fX11_moves_50 τ n) σ14 x3 x4 x5 x6 x7 x8 (v16 &&& x6) else fX11_moves_155 τ (fX11_moves_50 τ n) σ14 x3 x4 x5 x6 x7 x8 0 else fX11_moves_157 τ (fX11_moves_50 τ n) σ14 x3 x4 x5 x6 x7 x8 v16))))))
noncomputable def fX11_moves_0 (τ : Nat)  (σ : S2) (x1 : Int32) (x2 : Int32) (x3 : Int32) : Option (Int32 × S2) := bt (fX11_tableAt τ σ x1) (bt (fX11_tableAt τ σ x2) (some ((-1), σ)) (fun b20 => some ((-1), σ))) (fun b18 => bt (fX11_tableAt τ σ x2) (some ((-1), σ)) (fun b22 => if x3 < 0 then some ((-1), σ) else if x3 ≤ 1 then bi (fX8_alikeIn τ b18 b22 σ) (fun r23 => fX11_moves_50 τ FU σ x3 b18 b22 r23 0 0) else some ((-1), σ)))
noncomputable def fX11_moves (τ : Nat) (σ : S2) (a1 : Int32) (a2 : Int32) (a3 : Int32) : Option (Int32 × S2) := fX11_moves_0 τ σ a1 a2 a3
noncomputable def fX11_knows_0 (τ : Nat)  (σ : S2) (x1 : Int32) (x2 : Int32) : Option (Int32 × S2) := bi (fX2_has τ σ x1) (fun r1 => if r1 = 0 then some ((-2000000000), σ) else if x2 < (-1) then some ((-2000000000), σ) else if x2 < (σ.1 0 6) then ck 12 x1 (nm (σ.1 11 (Int32.toNatClampNeg x1)) (fun v3 => ck 12 x1 (nm (ux_wI σ 11 (Int32.toNatClampNeg x1) x2) (fun σ4 => some (v3, σ4))))) else some ((-2000000000), σ))
noncomputable def fX11_knows (τ : Nat) (σ : S2) (a1 : Int32) (a2 : Int32) : Option (Int32 × S2) := fX11_knows_0 τ σ a1 a2
noncomputable def fX11_write_0 (τ : Nat)  (σ : S2) (x1 : Int32) (x2 : Int32) : Option (Int32 × S2) := bi (fX2_has τ σ x1) (fun r1 => if r1 = 0 then some ((-1), σ) else bi (fX4_has τ σ x2) (fun r3 => if r3 = 0 then some ((-1), σ) else ck 12 x1 (nm (σ.1 11 (Int32.toNatClampNeg x1)) (fun v5 => bt (fX11_tableAt τ σ v5) (some ((-5), σ)) (fun b7 => bi (fX2_isUp τ σ x1) (fun r8 => if r8 = 0 then some ((-5), σ) else bs (fX6_spread τ b7 σ x2) (fun r10 σ11 => some (r10, σ11))))))))
noncomputable def fX11_write (τ : Nat) (σ : S2) (a1 : Int32) (a2 : Int32) : Option (Int32 × S2) := fX11_write_0 τ σ a1 a2
noncomputable def fX11_read_0 (τ : Nat)  (σ : S2) (x1 : Int32) (x2 : Int32) : Option (Int32 × S2) := bi (fX2_has τ σ x1) (fun r1 => if r1 = 0 then some ((-1), σ) else bi (fX4_has τ σ x2) (fun r3 => if r3 = 0 then some ((-1), σ) else ck 12 x1 (nm (σ.1 11 (Int32.toNatClampNeg x1)) (fun v5 => bt (fX11_tableAt τ σ v5) (some ((-5), σ)) (fun b7 => bi (fX2_isUp τ σ x1) (fun r8 => if r8 = 0 then some ((-5), σ) else bs (fX6_greatestFor τ b7 σ x2) (fun r10 σ11 => some (r10, σ11))))))))
noncomputable def fX11_read (τ : Nat) (σ : S2) (a1 : Int32) (a2 : Int32) : Option (Int32 × S2) := fX11_read_0 τ σ a1 a2
noncomputable def fX11_onShelf_0 (τ : Nat)  (σ : S2) (x1 : Int32) (x2 : Int32) (x3 : Int32) : Option Int32 := bi (fX2_has τ σ x1) (fun r1 => if r1 = 0 then some ((-1)) else bi (fX4_has τ σ x2) (fun r3 => if r3 = 0 then some ((-1)) else if x3 = 0 then ck 12 x1 (ck 40 x2 (nm (σ.1 (84 + Int32.toNatClampNeg x1) (Int32.toNatClampNeg x2)) (fun v7 => some (v7)))) else if x3 = 1 then ck 12 x1 (ck 40 x2 (nm (σ.1 (96 + Int32.toNatClampNeg x1) (Int32.toNatClampNeg x2)) (fun v10 => some (v10)))) else if x3 = 2 then ck 12 x1 (ck 40 x2 (nm (σ.1 (96 + Int32.toNatClampNeg x1) (Int32.toNatClampNeg x2)) (fun v13 => if v13 = 0 then some ((-2)) else ck 12 x1 (ck 40 x2 (nm (σ.1 (108 + Int32.toNatClampNeg x1) (Int32.toNatClampNeg x2)) (fun v15 => some (v15))))))) else if x3 = 3 then ck 12 x1 (ck 40 x2 (nm (σ.1 (120 + Int32.toNatClampNeg x1) (Int32.toNatClampNeg x2)) (fun v18 => some (v18)))) else some ((-1))))
noncomputable def fX11_onShelf (τ : Nat) (σ : S2) (a1 : Int32) (a2 : Int32) (a3 : Int32) : Option Int32 := fX11_onShelf_0 τ σ a1 a2 a3
noncomputable def fX11_fall_58 (τ : Nat)  (σ : S2) (x1 : Int32) (x2 : Int32) (x3 : Int32) (s0 : Int32) (s1 : Int32) : Option (Int32 × S2) := ck 12 s1 (nm (ux_wI σ 12 (Int32.toNatClampNeg s1) (vp_nar .boolean s0)) (fun σ1 => if x2 = 1 then bs (fX6_empty τ σ1 x1) (fun r2 σ3 => some (x3, σ3)) else some (x3, σ1)))
noncomputable def fX11_fall_39 (τ : Nat)  (σ : S2) (x1 : Int32) (x2 : Int32) (s0 : Int32) : Option (Int32 × S2) := if x2 = 1 then fX11_fall_58 τ σ x1 x2 s0 1 x1 else fX11_fall_58 τ σ x1 x2 s0 0 x1
noncomputable def fX11_fall_0 (τ : Nat)  (σ : S2) (x1 : Int32) (x2 : Int32) : Option (Int32 × S2) := bi (fX2_has τ σ x1) (fun r5 => if r5 = 0 then some ((-1), σ) else if x2 < 0 then some ((-1), σ) else if x2 ≤ 1 then ck 12 x1 (nm (σ.1 12 (Int32.toNatClampNeg x1)) (fun v7 => if v7 = 0 then fX11_fall_39 τ σ x1 x2 0 else fX11_fall_39 τ σ x1 x2 1)) else some ((-1), σ))
noncomputable def fX11_fall (τ : Nat) (σ : S2) (a1 : Int32) (a2 : Int32) : Option (Int32 × S2) := fX11_fall_0 τ σ a1 a2
noncomputable def fX11_half_0 (τ : Nat)  (σ : S2) (x1 : Int32) (x2 : Int32) (x3 : Int32) : Option (Int32 × S2) := bi (fX4_has τ σ x1) (fun r1 => if r1 = 0 then some ((-1), σ) else bi (fX2_has τ σ x2) (fun r3 => if r3 = 0 then some ((-1), σ) else bi (fX2_has τ σ x3) (fun r5 => if r5 = 0 then some ((-1), σ) else if x2 = x3 then some ((-1), σ) else ck 12 x2 (ck 40 x1 (nm (σ.1 (84 + Int32.toNatClampNeg x2) (Int32.toNatClampNeg x1)) (fun v8 => if v8 = 0 then some ((-2), σ) else bs (fX6_movePiece τ σ x1 x2 x3) (fun r9 σ10 => some (r9, σ10))))))))
noncomputable def fX11_half (τ : Nat) (σ : S2) (a1 : Int32) (a2 : Int32) (a3 : Int32) : Option (Int32 × S2) := fX11_half_0 τ σ a1 a2 a3
noncomputable def fX11_mend_0 (τ : Nat)  (σ : S2) (x1 : Int32) : Option (Int32 × S2) := bt (fX11_tableAt τ σ x1) (some ((-1), σ)) (fun b2 => bs (fX6_mendAll τ b2 σ) (fun r3 σ4 => some (r3, σ4)))
noncomputable def fX11_mend (τ : Nat) (σ : S2) (a1 : Int32) : Option (Int32 × S2) := fX11_mend_0 τ σ a1
noncomputable def fX11_trees_0 (τ : Nat)  (σ : S2) (x1 : Int32) (x2 : Int32) (x3 : Int32) : Option (Int32 × S2) := bi (fX2_has τ σ x1) (fun r1 => if r1 = 0 then some ((-1), σ) else bi (fX2_has τ σ x2) (fun r3 => if r3 = 0 then some ((-1), σ) else if x1 = x2 then some ((-1), σ) else if x3 < 0 then some ((-1), σ) else if x3 ≤ 1 then bs (fX6_compare τ σ x1 x2) (fun r5 σ6 => if x3 = 0 then bi (fX6_wordsAsked τ σ6) (fun r10 => some (r10, σ6)) else bi (fX6_unlikeLeaves τ σ6) (fun r8 => some (r8, σ6))) else some ((-1), σ)))
noncomputable def fX11_trees (τ : Nat) (σ : S2) (a1 : Int32) (a2 : Int32) (a3 : Int32) : Option (Int32 × S2) := fX11_trees_0 τ σ a1 a2 a3
noncomputable def fX11_upward_0 (τ : Nat)  (σ : S2) (x0 : Int32) (x1 : Int32) : Option Int32 := if x1 ≤ 0 then some (0) else dz x1 (some (((x0 + x1) - 1) / x1))
noncomputable def fX11_upward (τ : Nat) (σ : S2) (a0 : Int32) (a1 : Int32) : Option Int32 := fX11_upward_0 τ σ a0 a1
noncomputable def fX11_noon_49 (τ : Nat)  : Nat → S2 → Int32 → Int32 → Int32 → Int32 → Option Int32
  | 0, _, _, _, _, _ => none
  | n + 1, σ, x2, x3, x5, x6 => if x5 < x6 then some ((-2)) else bi (fX11_upward τ σ x2 x6) (fun r1 => if x3 < r1 then nm (x6 + 1) (fun v3 => fX11_noon_49 τ n σ x2 x3 x5 v3) else some (x6))
noncomputable def fX11_noon_0 (τ : Nat)  (σ : S2) (x1 : Int32) (x2 : Int32) (x3 : Int32) : Option Int32 := bt (fX11_tableAt τ σ x1) (some ((-1))) (fun b5 => if x2 < 0 then some ((-1)) else if 9999 < x2 then some ((-1)) else if x3 < 0 then some ((-1)) else if x3 ≤ 9999 then bi (fJ6_bitCount_0f7a4 τ σ (σ.1 (182 + 6 * b5) 0)) (fun r6 => fX11_noon_49 τ FU σ x2 x3 r6 1) else some ((-1)))
noncomputable def fX11_noon (τ : Nat) (σ : S2) (a1 : Int32) (a2 : Int32) (a3 : Int32) : Option Int32 := fX11_noon_0 τ σ a1 a2 a3
noncomputable def fX11_lies_0 (τ : Nat)  (σ : S2) (x1 : Int32) (x2 : Int32) (x3 : Int32) (x4 : Int32) : Option Int32 := bi (fX2_has τ σ x1) (fun r1 => if r1 = 0 then some ((-1)) else if x2 < 0 then some ((-1)) else if x3 < 1 then some ((-1)) else if x3 ≤ 99 then if x3 < x2 then some ((-1)) else if x4 < 0 then some ((-1)) else if x4 ≤ 1 then ck 12 x1 (nm (σ.1 10 (Int32.toNatClampNeg x1)) (fun v3 => bi (fX11_upward τ σ (v3 * (x3 - x2)) x3) (fun r4 => nm (if 1 < r4 then r4 else 1) (fun v6 => if x4 = 0 then some (v6) else some (4 * (v3 - v6)))))) else some ((-1)) else some ((-1)))
noncomputable def fX11_lies (τ : Nat) (σ : S2) (a1 : Int32) (a2 : Int32) (a3 : Int32) (a4 : Int32) : Option Int32 := fX11_lies_0 τ σ a1 a2 a3 a4
noncomputable def fX11_comes_0 (τ : Nat)  (σ : S2) (x1 : Int32) : Option (Int32 × S2) := bi (fX2_has τ σ x1) (fun r1 => if r1 = 0 then some ((-1), σ) else bi (fX5_isTold τ σ x1) (fun r3 => if r3 = 0 then if (σ.1 27 1) < 5 then ck 5 (σ.1 27 1) (nm (ux_wI σ 28 (Int32.toNatClampNeg (σ.1 27 1)) x1) (fun σ5 => nm (ux_wI σ5 27 1 ((σ5.1 27 1) + 1)) (fun σ6 => some (σ6.1 27 1, σ6)))) else some ((-3), σ) else some ((-1), σ)))
noncomputable def fX11_comes (τ : Nat) (σ : S2) (a1 : Int32) : Option (Int32 × S2) := fX11_comes_0 τ σ a1
noncomputable def fX11_order_0 (τ : Nat)  (σ : S2) (x1 : Int32) : Option (Int32 × S2) := bt (fX11_tableAt τ σ x1) (some ((-1), σ)) (fun b2 => if (σ.1 27 1) = 0 then some ((-1), σ) else bs (fX5_leastFrom τ b2 σ) (fun r3 σ4 => if r3 = (-1) then some ((-2), σ4) else some (r3, σ4)))
noncomputable def fX11_order (τ : Nat) (σ : S2) (a1 : Int32) : Option (Int32 × S2) := fX11_order_0 τ σ a1
noncomputable def fX11_ordered_0 (τ : Nat)  (σ : S2) (x1 : Int32) : Option Int32 := if x1 < 0 then some ((-1)) else if (σ.1 27 3) ≤ x1 then some ((-1)) else ck 5 x1 (nm (σ.1 29 (Int32.toNatClampNeg x1)) (fun v1 => some (v1)))
noncomputable def fX11_ordered (τ : Nat) (σ : S2) (a1 : Int32) : Option Int32 := fX11_ordered_0 τ σ a1
noncomputable def fX11_turning_0 (τ : Nat)  (σ : S2) (x1 : Int32) : Option (Int32 × S2) := if (σ.1 32 1) < 6 then ck 6 (σ.1 32 1) (nm (ux_wI σ 33 (Int32.toNatClampNeg (σ.1 32 1)) x1) (fun σ1 => nm (ux_wI σ1 32 1 ((σ1.1 32 1) + 1)) (fun σ2 => some (σ2.1 32 1, σ2)))) else some ((-3), σ)
noncomputable def fX11_turning (τ : Nat) (σ : S2) (a1 : Int32) : Option (Int32 × S2) := fX11_turning_0 τ σ a1
noncomputable def fX11_harm_0 (τ : Nat)  (σ : S2) (x1 : Int32) : Option (Int32 × S2) := bt (fX11_tableAt τ σ x1) (some ((-1), σ)) (fun b2 => if (σ.1 32 1) = 0 then some ((-1), σ) else bs (fX10_leastHarm τ b2 σ) (fun r3 σ4 => some (r3, σ4)))
noncomputable def fX11_harm (τ : Nat) (σ : S2) (a1 : Int32) : Option (Int32 × S2) := fX11_harm_0 τ σ a1
noncomputable def fX11_harmed_0 (τ : Nat)  (σ : S2)  : Option Int32 := if (σ.1 32 2) = (-1) then some ((-1)) else some (σ.1 32 2)
noncomputable def fX11_harmed (τ : Nat) (σ : S2)  : Option Int32 := fX11_harmed_0 τ σ
noncomputable def fX11_act_0 (τ : Nat)  (σ : S2) (x1 : Int32) (x2 : Int32) (x3 : Int32) : Option (Int32 × S2) := nm (ux_wI σ 35 1 0) (fun σ1 => bi (fX2_has τ σ1 x1) (fun r2 => if r2 = 0 then some (0, σ1) else ck 12 x1 (nm (σ1.1 10 (Int32.toNatClampNeg x1)) (fun v4 => ck 12 x1 (nm (σ1.1 8 (Int32.toNatClampNeg x1)) (fun v5 => bs (fX0_run τ σ1 x1 v4 v5 x2 x3) (fun r6 σ7 => some (r6, σ7))))))))
noncomputable def fX11_act (τ : Nat) (σ : S2) (a1 : Int32) (a2 : Int32) (a3 : Int32) : Option (Int32 × S2) := fX11_act_0 τ σ a1 a2 a3
noncomputable def fX11_trace_0 (τ : Nat)  (σ : S2) (x1 : Int32) : Option Int32 := if x1 < 0 then some ((-1)) else if (σ.1 35 1) ≤ x1 then some ((-1)) else if 24 ≤ x1 then some ((-1)) else ck 24 x1 (nm (σ.1 36 (Int32.toNatClampNeg x1)) (fun v1 => some (v1)))
noncomputable def fX11_trace (τ : Nat) (σ : S2) (a1 : Int32) : Option Int32 := fX11_trace_0 τ σ a1
noncomputable def fX11_isShelf_0 (τ : Nat)  (σ : S2) (x0 : Int32) : Option Int32 := if x0 < 0 then some (0) else if 6 ≤ x0 then some (0) else some (1)
noncomputable def fX11_isShelf (τ : Nat) (σ : S2) (a0 : Int32) : Option Int32 := fX11_isShelf_0 τ σ a0
noncomputable def fX11_keep_25 (τ : Nat)  (σ : S2) (x1 : Int32) (x2 : Int32) : Option (Int32 × S2) := bs (fX7_holdKeeper τ σ x1 x2) (fun r1 σ2 => some (1, σ2))
noncomputable def fX11_keep_0 (τ : Nat)  (σ : S2) (x1 : Int32) (x2 : Int32) : Option (Int32 × S2) := bi (fX11_isShelf τ σ x1) (fun r4 => if r4 = 0 then some ((-1), σ) else if x2 = (-1) then fX11_keep_25 τ σ x1 x2 else bi (fX2_has τ σ x2) (fun r6 => if r6 = 0 then some ((-1), σ) else fX11_keep_25 τ σ x1 x2))
noncomputable def fX11_keep (τ : Nat) (σ : S2) (a1 : Int32) (a2 : Int32) : Option (Int32 × S2) := fX11_keep_0 τ σ a1 a2
noncomputable def fX11_row_0 (τ : Nat)  (σ : S2) (x1 : Int32) (x2 : Int32) (x3 : Int32) : Option (Int32 × S2) := bi (fX11_isShelf τ σ x1) (fun r1 => if r1 = 0 then some ((-1), σ) else if x2 < 0 then some ((-1), σ) else if 4 < x2 then some ((-1), σ) else if x3 ≤ 60 then if 0 ≤ x3 then bs (fX7_holdRow τ σ x1 x2 x3) (fun r3 σ4 => some (1, σ4)) else some ((-14), σ) else some ((-1), σ))
noncomputable def fX11_row (τ : Nat) (σ : S2) (a1 : Int32) (a2 : Int32) (a3 : Int32) : Option (Int32 × S2) := fX11_row_0 τ σ a1 a2 a3
noncomputable def fX11_put_0 (τ : Nat)  (σ : S2) (x1 : Int32) (x2 : Int32) (x3 : Int64) : Option (Int32 × S2) := bi (fX11_isShelf τ σ x1) (fun r1 => if r1 = 0 then some ((-1), σ) else bi (fX7_refusalAt τ σ x1 x2) (fun r3 => if r3 = 0 then ck 6 x1 (ck 6 x1 (nm (σ.1 39 (Int32.toNatClampNeg x1)) (fun v6 => bi (fX7_lowest τ σ v6 x3) (fun r7 => ck 60 x2 (nm (ux_wL σ (176 + Int32.toNatClampNeg x1) (Int32.toNatClampNeg x2) r7) (fun σ9 => some (1, σ9))))))) else some (r3, σ)))
noncomputable def fX11_put (τ : Nat) (σ : S2) (a1 : Int32) (a2 : Int32) (a3 : Int64) : Option (Int32 × S2) := fX11_put_0 τ σ a1 a2 a3
noncomputable def fX11_element_19 (τ : Nat)  (σ : S2)  : Option Int64 := some ((-9223372036854775808))
noncomputable def fX11_element_0 (τ : Nat)  (σ : S2) (x1 : Int32) (x2 : Int32) : Option Int64 := bi (fX11_isShelf τ σ x1) (fun r1 => if r1 = 0 then fX11_element_19 τ σ else bi (fX7_refusalAt τ σ x1 x2) (fun r3 => if r3 = 0 then ck 6 x1 (ck 60 x2 (nm (σ.2 (176 + Int32.toNatClampNeg x1) (Int32.toNatClampNeg x2)) (fun v6 => some (v6)))) else fX11_element_19 τ σ))
noncomputable def fX11_element (τ : Nat) (σ : S2) (a1 : Int32) (a2 : Int32) : Option Int64 := fX11_element_0 τ σ a1 a2
noncomputable def fX11_shift_0 (τ : Nat)  (σ : S2) (x1 : Int32) (x2 : Int32) (x3 : Int32) (x4 : Int32) (x5 : Int32) : Option (Int32 × S2) := bi (fX11_isShelf τ σ x1) (fun r1 => if r1 = 0 then some ((-1), σ) else bi (fX11_isShelf τ σ x3) (fun r3 => if r3 = 0 then some ((-1), σ) else bi (fX7_isEmpty τ σ x1) (fun r5 => if r5 = 0 then bi (fX7_isEmpty τ σ x3) (fun r7 => if r7 = 0 then bi (fX7_isRow τ σ x1) (fun r9 => if r9 = 0 then some ((-12), σ) else bi (fX7_isRow τ σ x3) (fun r11 => if r11 = 0 then some ((-12), σ) else ck 6 x1 (nm (σ.1 39 (Int32.toNatClampNeg x1)) (fun v13 => ck 6 x3 (nm (σ.1 39 (Int32.toNatClampNeg x3)) (fun v14 => if v13 = v14 then bi (fX7_spans τ σ x1 x2 x5) (fun r15 => if r15 = 0 then some ((-13), σ) else bi (fX7_spans τ σ x3 x4 x5) (fun r17 => if r17 = 0 then some ((-13), σ) else ck 6 x1 (ck 6 x3 (cpL 60 60 (σ.2 (176 + Int32.toNatClampNeg x1)) x2 x4 x5 (nm (ux_L σ (176 + Int32.toNatClampNeg x3) (va_cpy (σ.2 (176 + Int32.toNatClampNeg x1)) (σ.2 (176 + Int32.toNatClampNeg x3)) (Int32.toNatClampNeg x2) (Int32.toNatClampNeg x4) (Int32.toNatClampNeg x5))) (fun σ21 => some (x5, σ21))))))) else some ((-12), σ))))))) else some ((-11), σ)) else some ((-11), σ))))
noncomputable def fX11_shift (τ : Nat) (σ : S2) (a1 : Int32) (a2 : Int32) (a3 : Int32) (a4 : Int32) (a5 : Int32) : Option (Int32 × S2) := fX11_shift_0 τ σ a1 a2 a3 a4 a5
noncomputable def fX11_isUnder_4 (τ : Nat)  : Nat → S2 → Int32 → Int32 → Int32 → Option Int32
  | 0, _, _, _, _ => none
  | n + 1, σ, x1, x2, x3 => if 7 ≤ x3 then some (0) else if x2 < 0 then some (0) else if 7 ≤ x2 then some (0) else if x2 = x1 then some (1) else ck 7 x2 (nm (kaI (Int32.toNatClampNeg x2)) (fun v1 => nm (x3 + 1) (fun v2 => fX11_isUnder_4 τ n σ x1 v1 v2)))
noncomputable def fX11_isUnder_0 (τ : Nat)  (σ : S2) (x0 : Int32) (x1 : Int32) : Option Int32 := fX11_isUnder_4 τ FU σ x1 x0 0
noncomputable def fX11_isUnder (τ : Nat) (σ : S2) (a0 : Int32) (a1 : Int32) : Option Int32 := fX11_isUnder_0 τ σ a0 a1
noncomputable def fX11_taken_0 (τ : Nat)  (σ : S2) (x1 : Int32) (x2 : Int32) : Option Int32 := bi (fX11_isShelf τ σ x1) (fun r1 => if r1 = 0 then some ((-1)) else bi (fX11_isKind τ σ x2) (fun r3 => if r3 = 0 then some ((-1)) else bi (fX7_isEmpty τ σ x1) (fun r5 => if r5 = 0 then ck 6 x1 (nm (σ.1 38 (Int32.toNatClampNeg x1)) (fun v7 => bi (fX2_has τ σ v7) (fun r8 => if r8 = 0 then some ((-12)) else ck 12 v7 (nm (σ.1 8 (Int32.toNatClampNeg v7)) (fun v10 => bi (fX11_isUnder τ σ v10 x2) (fun r11 => if r11 = 0 then some ((-12)) else some (v10))))))) else some ((-11)))))
noncomputable def fX11_taken (τ : Nat) (σ : S2) (a1 : Int32) (a2 : Int32) : Option Int32 := fX11_taken_0 τ σ a1 a2
noncomputable def fX11_names_0 (τ : Nat)  (σ : S2) (x1 : Int32) (x2 : Int32) (x3 : Int32) : Option (Int32 × S2) := bi (fX11_isShelf τ σ x1) (fun r1 => if r1 = 0 then some ((-1), σ) else if x3 < 1 then some ((-1), σ) else if x3 ≤ 20 then bi (fX7_isEmpty τ σ x1) (fun r3 => if r3 = 0 then bi (fX7_isRow τ σ x1) (fun r5 => if r5 = 0 then some ((-12), σ) else ck 6 x1 (nm (σ.1 39 (Int32.toNatClampNeg x1)) (fun v7 => if v7 = 0 then ck 6 x1 (ck 6 x1 (nm (σ.1 40 (Int32.toNatClampNeg x1)) (fun v9 => bs (fX4_addFrom τ (176 + Int32.toNatClampNeg x1) 60 σ v9 x2 x3) (fun r10 σ11 => some (r10, σ11))))) else some ((-12), σ)))) else some (0, σ)) else some ((-1), σ))
noncomputable def fX11_names (τ : Nat) (σ : S2) (a1 : Int32) (a2 : Int32) (a3 : Int32) : Option (Int32 × S2) := fX11_names_0 τ σ a1 a2 a3
noncomputable def fX11_count_0 (τ : Nat)  (σ : S2) (x1 : Int32) : Option Int32 := if x1 = 0 then some (σ.1 3 3) else if x1 = 1 then some (σ.1 7 5) else if x1 = 2 then some (σ.1 0 6) else if x1 = 3 then some (σ.1 1 1) else if x1 = 4 then bi (fX6_allCopies τ σ) (fun r6 => some (r6)) else if x1 = 5 then bi (fX6_allKept τ σ) (fun r9 => some (r9)) else if x1 = 6 then some (σ.1 18 8) else if x1 = 7 then some (σ.1 35 1) else some ((-1))
noncomputable def fX11_count (τ : Nat) (σ : S2) (a1 : Int32) : Option Int32 := fX11_count_0 τ σ a1
end
