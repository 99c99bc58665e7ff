/-! for the class: copies between arrays, tables by block, min and max -/
def bt {β : Type} (o : Option (Option Nat)) (K0 : Option β) (K1 : Nat → Option β) : Option β := match o with
  | none => none
  | some none => K0
  | some (some b) => K1 b
theorem btS {β : Type} {a : Option (Option Nat)} {K0 : Option β} {K1 : Nat → Option β} {o : β} (h : bt a K0 K1 = some o) : (a = some none ∧ K0 = some o) ∨ ∃ b, a = some (some b) ∧ K1 b = some o := by
  unfold bt at h
  split at h
  · cases h
  · exact Or.inl ⟨rfl, h⟩
  · exact Or.inr ⟨_, rfl, h⟩
abbrev cpOk (n0 n1 : Nat) (sp dp n : Int32) : Prop := ¬ sp < 0 ∧ ¬ dp < 0 ∧ ¬ n < 0 ∧ sp.toNatClampNeg + n.toNatClampNeg ≤ n0 ∧ dp.toNatClampNeg + n.toNatClampNeg ≤ n1
def cp {β : Type} (ty : FieldType) (n0 n1 : Nat) (f : Nat → Int32) (sp dp n : Int32) (K : Option β) : Option β := if cpOk n0 n1 sp dp n ∧ ∀ i, i < n.toNatClampNeg → fits ty (.int (f (sp.toNatClampNeg + i))) = true then K else none
def cpL {β : Type} (n0 n1 : Nat) (f : Nat → Int64) (sp dp n : Int32) (K : Option β) : Option β := if cpOk n0 n1 sp dp n ∧ ∀ i, i < n.toNatClampNeg → fits .long (.long (f (sp.toNatClampNeg + i))) = true then K else none
theorem cpS {β : Type} {ty : FieldType} {n0 n1 : Nat} {f : Nat → Int32} {sp dp n : Int32} {K : Option β} {o : β} (h : cp ty n0 n1 f sp dp n K = some o) : (cpOk n0 n1 sp dp n ∧ ∀ i, i < n.toNatClampNeg → fits ty (.int (f (sp.toNatClampNeg + i))) = true) ∧ K = some o := by
  unfold cp at h
  split at h
  · exact ⟨by assumption, h⟩
  · cases h
theorem cpLS {β : Type} {n0 n1 : Nat} {f : Nat → Int64} {sp dp n : Int32} {K : Option β} {o : β} (h : cpL n0 n1 f sp dp n K = some o) : (cpOk n0 n1 sp dp n ∧ ∀ i, i < n.toNatClampNeg → fits .long (.long (f (sp.toNatClampNeg + i))) = true) ∧ K = some o := by
  unfold cpL at h
  split at h
  · exact ⟨by assumption, h⟩
  · cases h
section UY
variable {p : Program} {l : Launch} {e : Env} {R : Room} {s : State} {m : MethodId} {args : Array Value} {below : List Frame} {meth : Method} {c : Code} {H : Heap} {locs : List Loc} {cells slots : Nat} {Q : State → Prop} {pc : Nat} {ls : Array Slot} {rest : List Value} {cc : ByteArray}
variable {cell : ux_F} {ad : Nat → Nat} {N : Nat} {σ : S2} {D : va_G} {cl : List vw_C} {tys : List (ClassId × FieldType)} {A : Nat → Prop} {H0 : Heap} {β : Type} {o : β}
theorem ux_copyi (hexec : p.tables.exec = Jvm.exec) (hb : c.code = cc) (hml : c.maxLocals = ls.size) {own : String} {index : Nat} (hown : s.vm.findClass own = some m.cls) (hlink : (Cond.methodLink own index arraycopyName).before args s = true) (hnat : (Cond.native arraycopyName).before args s = true) (hstat : (Cond.static arraycopyName).before args s = true) (hini : (Cond.initialized "java/lang/System").before args s = true)
    (hK : va_K D cl tys s) (hP : va_P D cl (wG cell ad N σ) H) (hD : va_D A (wG cell ad N σ)) (hS : va_S A H0 H locs) (q0 q1 t0 : Nat) (hq0 : q0 < N) (hq1 : q1 < N) {cA : ClassId} {n0 n1 : Nat} {ty : FieldType} (hE0 : cell q0 (σ.1 q0) (σ.2 q0) = .inl (cA, n0, .inl (σ.1 q0))) (hE1 : ∀ g, cell q1 g (σ.2 q1) = .inl (cA, n1, .inl g)) (ht : tys[t0]? = some (cA, ty)) (hprim : refKind ty = false)
    {sp dp n : Int32} {K : S2 → Option β} (h : cp ty n0 n1 (σ.1 q0) sp dp n (nm (ux_I σ q1 (va_cpy (σ.1 q0) (σ.1 q1) sp.toNatClampNeg dp.toNatClampNeg n.toNatClampNeg)) K) = some o)
    (hframes : 1 ≤ R.frames) (hlocals : (rest.map fun v => v.category).sum + (nativeFrameWords "java/lang/System" "arraycopy" 5 + 11) ≤ R.locals) (hdg : decode cc pc = .ok (.invokestatic index, 3))
    (kk : ∀ (σ1 : S2) (H1 : Heap) (locs1 : List Loc), K σ1 = some o → va_P D cl (wG cell ad N σ1) H1 → va_D A (wG cell ad N σ1) → va_S A H0 H1 locs1 → W p l e R s m args below meth c H1 locs1 cells slots Q (F0 m (pc + 3) ls rest)) : W p l e R s m args below meth c H locs cells slots Q (F0 m pc ls (.int n :: .int dp :: .ref (ad q1) :: .int sp :: .ref (ad q0) :: rest)) := by
  obtain ⟨⟨⟨h1, h2, h3, h4, h5⟩, hfit⟩, h⟩ := cpS h
  refine va_copyi hexec hb hml hown hlink hnat hstat hini hK hP hD hS q0 q1 t0 t0 (wG_of hq0 hE0) (wG_of hq1 (hE1 _)) ht ht hprim h1 h2 h3 h4 h5 hfit hframes hlocals hdg fun H1 locs1 hP hD hS => ?_
  rw [wG_setI (hE1 _)] at hP hD
  exact kk _ H1 locs1 h hP hD hS
theorem ux_copyl (hexec : p.tables.exec = Jvm.exec) (hb : c.code = cc) (hml : c.maxLocals = ls.size) {own : String} {index : Nat} (hown : s.vm.findClass own = some m.cls) (hlink : (Cond.methodLink own index arraycopyName).before args s = true) (hnat : (Cond.native arraycopyName).before args s = true) (hstat : (Cond.static arraycopyName).before args s = true) (hini : (Cond.initialized "java/lang/System").before args s = true)
    (hK : va_K D cl tys s) (hP : va_P D cl (wG cell ad N σ) H) (hD : va_D A (wG cell ad N σ)) (hS : va_S A H0 H locs) (q0 q1 t0 : Nat) (hq0 : q0 < N) (hq1 : q1 < N) {cA : ClassId} {n0 n1 : Nat} (hE0 : cell q0 (σ.1 q0) (σ.2 q0) = .inl (cA, n0, .inr (.inl (σ.2 q0)))) (hE1 : ∀ g, cell q1 (σ.1 q1) g = .inl (cA, n1, .inr (.inl g))) (ht : tys[t0]? = some (cA, .long))
    {sp dp n : Int32} {K : S2 → Option β} (h : cpL n0 n1 (σ.2 q0) sp dp n (nm (ux_L σ q1 (va_cpy (σ.2 q0) (σ.2 q1) sp.toNatClampNeg dp.toNatClampNeg n.toNatClampNeg)) K) = some o)
    (hframes : 1 ≤ R.frames) (hlocals : (rest.map fun v => v.category).sum + (nativeFrameWords "java/lang/System" "arraycopy" 5 + 11) ≤ R.locals) (hdg : decode cc pc = .ok (.invokestatic index, 3))
    (kk : ∀ (σ1 : S2) (H1 : Heap) (locs1 : List Loc), K σ1 = some o → va_P D cl (wG cell ad N σ1) H1 → va_D A (wG cell ad N σ1) → va_S A H0 H1 locs1 → W p l e R s m args below meth c H1 locs1 cells slots Q (F0 m (pc + 3) ls rest)) : W p l e R s m args below meth c H locs cells slots Q (F0 m pc ls (.int n :: .int dp :: .ref (ad q1) :: .int sp :: .ref (ad q0) :: rest)) := by
  obtain ⟨⟨⟨h1, h2, h3, h4, h5⟩, hfit⟩, h⟩ := cpLS h
  refine va_copyl hexec hb hml hown hlink hnat hstat hini hK hP hD hS q0 q1 t0 t0 (wG_of hq0 hE0) (wG_of hq1 (hE1 _)) ht ht rfl h1 h2 h3 h4 h5 hfit hframes hlocals hdg fun H1 locs1 hP hD hS => ?_
  rw [wG_setL (hE1 _)] at hP hD
  exact kk _ H1 locs1 h hP hD hS
theorem ux_putV (hexec : p.tables.exec = Jvm.exec) (hb : c.code = cc) {own ref C : String} {T : u_T} {M ci index : Nat} {Ts : List Cond} (hts : ∀ w ∈ Ts, w.before args s = true) (hin : ∀ w ∈ u_ws C T M, w ∈ Ts) (ty0 : Nat → FieldType) (hty : ∀ k, k < M → parseFieldDescriptor (T k).2.2.1 = some (ty0 k)) (hnm : ∀ a, a < M → ∀ b, b < M → a ≠ b → (T a).2.1 ≠ (T b).2.1) (hown : s.vm.findClass own = some m.cls) (hK : va_K D cl tys s) (hP : va_P D cl (wG cell ad N σ) H) (hD : va_D A (wG cell ad N σ)) (hS : va_S A H0 H locs) (q0 : Nat) (hk0 : q0 < N) {fs : List Value} (he : cell q0 (σ.1 q0) (σ.2 q0) = .inr (ci, fs)) (hc : cl[ci]? = some (C, T, M)) (k : Nat) (hk : k < M) (hlink : (Cond.fieldLink own index ref (T k).2.1 (T k).2.2.1).before args s = true) (hsame : ∀ x, s.fieldFound? (T k).1 (T k).2.1 (T k).2.2.1 = some x → s.fieldFound? ref (T k).2.1 (T k).2.2.1 = some x) (hfin : (T k).2.2.2 = false) {ty : FieldType} {v : Value} {g9 : Nat → Int32} (hd : parseFieldDescriptor (T k).2.2.1 = some ty) (hn : narrow ty v = v) (hfit : fits ty v = true) (hl : k < fs.length) (hset : cell q0 g9 (σ.2 q0) = .inr (ci, fs.set k v)) {K : S2 → Option β} (h : nm (ux_I σ q0 g9) K = some o)
    (hdg : decode cc pc = .ok (.putfield index, 3)) (kk : ∀ (σ1 : S2) (H1 : Heap) (locs1 : List Loc), K σ1 = some o → va_P D cl (wG cell ad N σ1) H1 → va_D A (wG cell ad N σ1) → va_S A H0 H1 locs1 → W p l e R s m args below meth c H1 locs1 cells slots Q (F0 m (pc + 3) ls rest)) : W p l e R s m args below meth c H locs cells slots Q (F0 m pc ls (v :: .ref (ad q0) :: rest)) := by
  refine va_put hexec hb hts hin ty0 hty hnm hown hK hP hD hS q0 (wG_of hk0 he) hc k hk hlink hsame hfin hd hn hfit hl hdg fun H1 locs1 hP hD hS => ?_
  rw [wG_setI hset] at hP hD
  exact kk _ H1 locs1 h hP hD hS
theorem vp_lt {i : Int32} {n : Nat} (h : vp_in i n) : i.toNatClampNeg < n := Nat.not_le.mp fun q => h (Or.inr q)
end UY
/-! the static row KIND_ABOVE -/
def kaI (j : Nat) : Int32 := match j with | 0 => (-1) | 6 => 1 | _ => 0
def kaP (t : Nat) (A : Nat → Prop) (U : State) : Prop := va_Z "SeatsRound" "KIND_ABOVE" "[I" (.ref t) A U U.heap ∧ va_T .int t 7 (fun j => .int (kaI j)) A U U.heap
theorem wp_blindK {av : List Value} {D : va_G} {cy : Nat → ClassId} {ws : va_W} {sz t : Nat} {B : Nat → Prop} : FrameBlind (va_Pc av (fun U => wPre D cy ws sz U ∧ kaP t B U)) := fun a U g mk q => by
  obtain ⟨q0, ⟨q1, qP, qK, qD, qN⟩, qZ, qT⟩ := q
  exact ⟨q0, ⟨q1, qP, va_K.moved (u := U) (U := U.calling g mk a) (Vm.Alike.refl U.vm) qK, qD, NW.same (u := U) (U := U.calling g mk a) rfl qN⟩, va_Z.moved (u := U) (U := U.calling g mk a) (Vm.Alike.refl U.vm) qZ, va_T.moved (u := U) (U := U.calling g mk a) (Vm.Alike.refl U.vm) qT⟩
theorem fr_A {A : Nat → Prop} {ws : va_W} {H0 H : Heap} {locs : List Loc} (hD : va_D A ws) (hS : va_S A H0 H locs) (hA : ∀ q : Nat, H0.size ≤ q → A q) : ∀ q, va_A ws H.size q → A q := fun q h => h.elim (fun ⟨k, e, hk⟩ => hD.2 k _ hk) (fun h => hA q (Nat.le_trans hS.1 h))
theorem ka_at {t : Nat} {A B : Nat → Prop} {s U : State} {H : Heap} {locs : List Loc} (hZ : va_Z "SeatsRound" "KIND_ABOVE" "[I" (.ref t) A s s.heap) (hT : va_T .int t 7 (fun j => .int (kaI j)) A s s.heap) (hS : va_S A s.heap H locs) (hF : ∀ q, B q → A q) (hU : U.heap = H) (hW : s.vm.Alike U.vm) : kaP t B U := by
  refine ⟨va_Z.moved hW ?_, va_T.moved hW ?_⟩
  · rw [hU]; exact (hZ.kept (H1 := H) hS.2.1).narrow hF
  · rw [hU]; exact (hT.kept (H1 := H) hS.2.1).narrow hF
theorem wp_SK {s : State} {H : Heap} {As : List Value} {D : va_G} {cy : Nat → ClassId} {ws : va_W} {A B : Nat → Prop} {t : Nat} {locs : List Loc} (hK : va_K D vwCl (tyl cy) s) (hN : NW s) (hP : va_P D vwCl ws H) (hD : va_D A ws) (hZ : va_Z "SeatsRound" "KIND_ABOVE" "[I" (.ref t) A s s.heap) (hT : va_T .int t 7 (fun j => .int (kaI j)) A s s.heap) (hS : va_S A s.heap H locs) (hF : ∀ q, B q → A q) : PreS s H (va_Pc As (fun U => wPre D cy ws H.size U ∧ kaP t B U)) As :=
  ⟨wp_blindK, fun U hU hW => ⟨rfl, ⟨by rw [hU], by rw [hU]; exact hP, va_K.moved hW.alike hK, hD.weaken (fun _ _ _ _ => trivial), hN.warm hW⟩, ka_at hZ hT hS hF hU hW.alike⟩⟩
theorem wp_VK {s : State} {H : Heap} {C : String} {b : Addr} {As : List Value} {D : va_G} {cy : Nat → ClassId} {ws : va_W} {A A0 B : Nat → Prop} {t : Nat} {locs : List Loc} (hK : va_K D vwCl (tyl cy) s) (hN : NW s) (hP : va_P D vwCl ws H) (hD : va_D A ws) (hr : ∃ cellB : Cell, H[b]? = some cellB ∧ cellB.vm.isStatics = false ∧ s.vm.findClass C = some cellB.cls) (hZ : va_Z "SeatsRound" "KIND_ABOVE" "[I" (.ref t) A0 s s.heap) (hT : va_T .int t 7 (fun j => .int (kaI j)) A0 s s.heap) (hS : va_S A0 s.heap H locs) (hF : ∀ q, B q → A0 q) : PreV s H C b (va_Pc (.ref b :: As) (fun U => wPre D cy ws H.size U ∧ kaP t B U)) As :=
  ⟨wp_blindK, hr, fun U hU hW => ⟨rfl, ⟨by rw [hU], by rw [hU]; exact hP, va_K.moved hW.alike hK, hD.weaken (fun _ _ _ _ => trivial), hN.warm hW⟩, ka_at hZ hT hS hF hU hW.alike⟩⟩
section UT
variable {p : Program} {l : Launch} {e : Env} {R : Room} {s : State} {m : MethodId} {args : Array Value} {below : List Frame} {meth : Method} {c : Code} {H : Heap} {locs : List Loc} {cells slots : Nat} {Q : State → Prop} {pc : Nat} {ls : Array Slot} {rest : List Value} {cc : ByteArray} {A : Nat → Prop} {β : Type} {o : β}
theorem ux_ti (hexec : p.tables.exec = Jvm.exec) (hb : c.code = cc) {t : Nat} (hT : va_T .int t 7 (fun j => .int (kaI j)) A s s.heap) (hS : va_S A s.heap H locs) {i : Int32} {K : Int32 → Option β} (h : ck 7 i (nm (kaI (Int32.toNatClampNeg i)) K) = some o) (hdg : decode cc pc = .ok (.iaload, 1)) (kk : ∀ v : Int32, K v = some o → W p l e R s m args below meth c H locs cells slots Q (F0 m (pc + 1) ls (.int v :: rest))) : W p l e R s m args below meth c H locs cells slots Q (F0 m pc ls (.int i :: .ref t :: rest)) := by
  obtain ⟨hi, h⟩ := ckS h
  exact va_ti hexec hb hT hS hi rfl hdg (kk _ h)
end UT
