/-! states, worlds of numbered cells, and walks that carry a function's equation -/
abbrev S2 : Type := (Nat → Nat → Int32) × (Nat → Nat → Int64)
abbrev ux_F : Type := Nat → (Nat → Int32) → (Nat → Int64) → va_E
def ux_I (σ : S2) (k : Nat) (g : Nat → Int32) : S2 := (fun j => if j = k then g else σ.1 j, σ.2)
def ux_L (σ : S2) (k : Nat) (g : Nat → Int64) : S2 := (σ.1, fun j => if j = k then g else σ.2 j)
/-- one element or int field of cell k set -/
def ux_wI (σ : S2) (k i : Nat) (x : Int32) : S2 := ux_I σ k (upd (σ.1 k) i x)
def ux_wL (σ : S2) (k i : Nat) (x : Int64) : S2 := ux_L σ k (vp_updL (σ.2 k) i x)
def wG (cell : ux_F) (ad : Nat → Nat) (N : Nat) (σ : S2) : va_W := (List.range N).map (fun k => (ad k, cell k (σ.1 k) (σ.2 k)))
theorem wG_at {cell : ux_F} {ad : Nat → Nat} {N : Nat} {σ : S2} {k : Nat} (h : k < N) : (wG cell ad N σ)[k]? = some (ad k, cell k (σ.1 k) (σ.2 k)) := by
  unfold wG
  rw [List.getElem?_map, List.getElem?_range h]
  rfl
theorem wG_of {cell : ux_F} {ad : Nat → Nat} {N : Nat} {σ : S2} {k : Nat} (h : k < N) {E : va_E} (hE : cell k (σ.1 k) (σ.2 k) = E) : (wG cell ad N σ)[k]? = some (ad k, E) := by rw [← hE]; exact wG_at h
theorem wG_setI {cell : ux_F} {ad : Nat → Nat} {N : Nat} {σ : S2} {k : Nat} {g : Nat → Int32} {E : va_E} (hE : cell k g (σ.2 k) = E) : (wG cell ad N σ).set k (ad k, E) = wG cell ad N (ux_I σ k g) := by
  subst hE
  apply List.ext_getElem?
  intro j
  by_cases hj : j = k
  · subst hj
    by_cases h : j < N
    · rw [List.getElem?_set_self (by unfold wG; simpa using h), wG_at h]
      show _ = some (ad j, cell j (if j = j then g else σ.1 j) (σ.2 j))
      rw [if_pos rfl]
    · rw [List.getElem?_eq_none (by unfold wG; simp; omega), List.getElem?_eq_none (by unfold wG; simp; omega)]
  · rw [List.getElem?_set_ne (fun h => hj h.symm)]
    by_cases h : j < N
    · rw [wG_at h, wG_at h]
      show _ = some (ad j, cell j (if j = k then g else σ.1 j) (σ.2 j))
      rw [if_neg hj]
    · rw [List.getElem?_eq_none (by unfold wG; simp; omega), List.getElem?_eq_none (by unfold wG; simp; omega)]
theorem wG_setL {cell : ux_F} {ad : Nat → Nat} {N : Nat} {σ : S2} {k : Nat} {g : Nat → Int64} {E : va_E} (hE : cell k (σ.1 k) g = E) : (wG cell ad N σ).set k (ad k, E) = wG cell ad N (ux_L σ k g) := by
  subst hE
  apply List.ext_getElem?
  intro j
  by_cases hj : j = k
  · subst hj
    by_cases h : j < N
    · rw [List.getElem?_set_self (by unfold wG; simpa using h), wG_at h]
      show _ = some (ad j, cell j (σ.1 j) (if j = j then g else σ.2 j))
      rw [if_pos rfl]
    · rw [List.getElem?_eq_none (by unfold wG; simp; omega), List.getElem?_eq_none (by unfold wG; simp; omega)]
  · rw [List.getElem?_set_ne (fun h => hj h.symm)]
    by_cases h : j < N
    · rw [wG_at h, wG_at h]
      show _ = some (ad j, cell j (σ.1 j) (if j = k then g else σ.2 j))
      rw [if_neg hj]
    · rw [List.getElem?_eq_none (by unfold wG; simp; omega), List.getElem?_eq_none (by unfold wG; simp; omega)]
/-- a named value -/
def nm {α β : Type} (a : α) (K : α → β) : β := K a
/-- an element is there, or nothing -/
def ck {β : Type} (n : Nat) (i : Int32) (K : Option β) : Option β := if i < 0 ∨ n ≤ i.toNatClampNeg then none else K
def dz {β : Type} (y : Int32) (K : Option β) : Option β := if y = 0 then none else K
def bi {α β : Type} (o : Option α) (K : α → Option β) : Option β := o.bind K
def bs {α β : Type} (o : Option (α × S2)) (K : α → S2 → Option β) : Option β := o.bind (fun x => K x.1 x.2)
theorem nmS {α β : Type} {a f : α} {K : α → β} {o : β} (h : nm a K = o) (e : f = a) : K f = o := e ▸ h
theorem ckS {β : Type} {n : Nat} {i : Int32} {K : Option β} {o : β} (h : ck n i K = some o) : vp_in i n ∧ K = some o := by
  unfold ck at h
  split at h
  · cases h
  · exact ⟨by unfold vp_in; assumption, h⟩
theorem dzS {β : Type} {y : Int32} {K : Option β} {o : β} (h : dz y K = some o) : ¬ y = 0 ∧ K = some o := by
  unfold dz at h
  split at h
  · cases h
  · exact ⟨by assumption, h⟩
theorem biS {α β : Type} {a : Option α} {K : α → Option β} {o : β} (h : bi a K = some o) : ∃ x, a = some x ∧ K x = some o := Option.bind_eq_some_iff.mp h
theorem bsS {α β : Type} {a : Option (α × S2)} {K : α → S2 → Option β} {o : β} (h : bs a K = some o) : ∃ x σ, a = some (x, σ) ∧ K x σ = some o := by
  obtain ⟨⟨x, σ⟩, h1, h2⟩ := Option.bind_eq_some_iff.mp h
  exact ⟨x, σ, h1, h2⟩
theorem cdP {β : Type} {c : Prop} [Decidable c] {a b o : β} (hc : c) (h : (if c then a else b) = o) : a = o := (if_pos hc).symm.trans h
theorem cdN {β : Type} {c : Prop} [Decidable c] {a b o : β} (hc : ¬ c) (h : (if c then a else b) = o) : b = o := (if_neg hc).symm.trans h
theorem va_Dm {A B : Nat → Prop} {ws : va_W} (h : va_D A ws) (hs : ∀ q, A q → B q) : va_D B ws := ⟨h.1, fun k q hk => hs _ (h.2 k q hk)⟩
theorem va_AD {A0 : Nat → Prop} {ws : va_W} {H0 H : Heap} {locs : List Loc} (hD : va_D A0 ws) (hS : va_S A0 H0 H locs) (hA : ∀ q, H0.size ≤ q → A0 q) : ∀ q, va_A ws H.size q → A0 q := by
  intro q h
  rcases h with ⟨k, e, h⟩ | h
  · exact hD.2 k _ h
  · exact hA q (Nat.le_trans hS.1 h)
section UX
variable {p : Program} {l : Launch} {e : Env} {R : Room} {s : State} {m : MethodId} {args : Array Value} {below : List Frame} {meth : Method} {c : Code} {H : Heap} {locs : List Loc} {cells slots : Nat} {Q : State → Prop} {pc : Nat} {ls : Array Slot} {rest : List Value} {cc : ByteArray}
variable {cell : ux_F} {ad : Nat → Nat} {N : Nat} {σ : S2} {D : va_G} {cl : List vw_C} {tys : List (ClassId × FieldType)} {A : Nat → Prop} {H0 : Heap} {β : Type} {o : β}
theorem ux_iald (hexec : p.tables.exec = Jvm.exec) (hb : c.code = cc) (hK : va_K D cl tys s) (hP : va_P D cl (wG cell ad N σ) H) (k t0 : Nat) (hk : k < N) {cA : ClassId} {n : Nat} (hE : cell k (σ.1 k) (σ.2 k) = .inl (cA, n, .inl (σ.1 k))) (ht : tys[t0]? = some (cA, .int)) {i : Int32} {K : Int32 → Option β} (h : ck n i (nm (σ.1 k i.toNatClampNeg) K) = some o) (hdg : decode cc pc = .ok (.iaload, 1))
    (kk : ∀ v, K v = some o → W p l e R s m args below meth c H locs cells slots Q (F0 m (pc + 1) ls (.int v :: rest))) : W p l e R s m args below meth c H locs cells slots Q (F0 m pc ls (.int i :: .ref (ad k) :: rest)) := by
  obtain ⟨hin, h⟩ := ckS h
  exact va_iald hexec hb hK hP k t0 (wG_of hk hE) ht hin hdg (kk _ h)
theorem ux_bald (hexec : p.tables.exec = Jvm.exec) (hb : c.code = cc) (hK : va_K D cl tys s) (hP : va_P D cl (wG cell ad N σ) H) (k t0 : Nat) (hk : k < N) {cA : ClassId} {n : Nat} (hE : cell k (σ.1 k) (σ.2 k) = .inl (cA, n, .inl (σ.1 k))) (ht : tys[t0]? = some (cA, .byte)) {i : Int32} {K : Int32 → Option β} (h : ck n i (nm (σ.1 k i.toNatClampNeg) K) = some o) (hdg : decode cc pc = .ok (.baload, 1))
    (kk : ∀ v, K v = some o → W p l e R s m args below meth c H locs cells slots Q (F0 m (pc + 1) ls (.int v :: rest))) : W p l e R s m args below meth c H locs cells slots Q (F0 m pc ls (.int i :: .ref (ad k) :: rest)) := by
  obtain ⟨hin, h⟩ := ckS h
  exact va_bald hexec hb hK hP k t0 (wG_of hk hE) ht hin hdg (kk _ h)
theorem ux_zald (hexec : p.tables.exec = Jvm.exec) (hb : c.code = cc) (hK : va_K D cl tys s) (hP : va_P D cl (wG cell ad N σ) H) (k t0 : Nat) (hk : k < N) {cA : ClassId} {n : Nat} (hE : cell k (σ.1 k) (σ.2 k) = .inl (cA, n, .inl (σ.1 k))) (ht : tys[t0]? = some (cA, .boolean)) {i : Int32} {K : Int32 → Option β} (h : ck n i (nm (σ.1 k i.toNatClampNeg) K) = some o) (hdg : decode cc pc = .ok (.baload, 1))
    (kk : ∀ v, K v = some o → W p l e R s m args below meth c H locs cells slots Q (F0 m (pc + 1) ls (.int v :: rest))) : W p l e R s m args below meth c H locs cells slots Q (F0 m pc ls (.int i :: .ref (ad k) :: rest)) := by
  obtain ⟨hin, h⟩ := ckS h
  exact va_zald hexec hb hK hP k t0 (wG_of hk hE) ht hin hdg (kk _ h)
theorem ux_sald (hexec : p.tables.exec = Jvm.exec) (hb : c.code = cc) (hK : va_K D cl tys s) (hP : va_P D cl (wG cell ad N σ) H) (k t0 : Nat) (hk : k < N) {cA : ClassId} {n : Nat} (hE : cell k (σ.1 k) (σ.2 k) = .inl (cA, n, .inl (σ.1 k))) (ht : tys[t0]? = some (cA, .short)) {i : Int32} {K : Int32 → Option β} (h : ck n i (nm (σ.1 k i.toNatClampNeg) K) = some o) (hdg : decode cc pc = .ok (.saload, 1))
    (kk : ∀ v, K v = some o → W p l e R s m args below meth c H locs cells slots Q (F0 m (pc + 1) ls (.int v :: rest))) : W p l e R s m args below meth c H locs cells slots Q (F0 m pc ls (.int i :: .ref (ad k) :: rest)) := by
  obtain ⟨hin, h⟩ := ckS h
  exact va_sald hexec hb hK hP k t0 (wG_of hk hE) ht hin hdg (kk _ h)
theorem ux_lald (hexec : p.tables.exec = Jvm.exec) (hb : c.code = cc) (hK : va_K D cl tys s) (hP : va_P D cl (wG cell ad N σ) H) (k t0 : Nat) (hk : k < N) {cA : ClassId} {n : Nat} (hE : cell k (σ.1 k) (σ.2 k) = .inl (cA, n, .inr (.inl (σ.2 k)))) (ht : tys[t0]? = some (cA, .long)) {i : Int32} {K : Int64 → Option β} (h : ck n i (nm (σ.2 k i.toNatClampNeg) K) = some o) (hdg : decode cc pc = .ok (.laload, 1))
    (kk : ∀ v, K v = some o → W p l e R s m args below meth c H locs cells slots Q (F0 m (pc + 1) ls (.long v :: rest))) : W p l e R s m args below meth c H locs cells slots Q (F0 m pc ls (.int i :: .ref (ad k) :: rest)) := by
  obtain ⟨hin, h⟩ := ckS h
  exact va_lald hexec hb hK hP k t0 (wG_of hk hE) ht hin hdg (kk _ h)
theorem ux_iast (hexec : p.tables.exec = Jvm.exec) (hb : c.code = cc) (hK : va_K D cl tys s) (hP : va_P D cl (wG cell ad N σ) H) (hD : va_D A (wG cell ad N σ)) (hS : va_S A H0 H locs) (k t0 : Nat) (hk : k < N) {cA : ClassId} {n : Nat} (hE : ∀ g, cell k g (σ.2 k) = .inl (cA, n, .inl g)) (ht : tys[t0]? = some (cA, .int)) {i x : Int32} {K : S2 → Option β} (h : ck n i (nm (ux_wI σ k i.toNatClampNeg x) K) = some o) (hdg : decode cc pc = .ok (.iastore, 1))
    (kk : ∀ (σ1 : S2) (H1 : Heap) (locs1 : List Loc), K σ1 = some o → va_P D cl (wG cell ad N σ1) H1 → va_D A (wG cell ad N σ1) → va_S A H0 H1 locs1 → W p l e R s m args below meth c H1 locs1 cells slots Q (F0 m (pc + 1) ls rest)) : W p l e R s m args below meth c H locs cells slots Q (F0 m pc ls (.int x :: .int i :: .ref (ad k) :: rest)) := by
  obtain ⟨hin, h⟩ := ckS h
  refine va_iast hexec hb hK hP hD hS k t0 (wG_of hk (hE _)) ht hin hdg fun H1 locs1 hP hD hS => ?_
  rw [wG_setI (hE _)] at hP hD
  exact kk _ H1 locs1 h hP hD hS
theorem ux_bast (hexec : p.tables.exec = Jvm.exec) (hb : c.code = cc) (hK : va_K D cl tys s) (hP : va_P D cl (wG cell ad N σ) H) (hD : va_D A (wG cell ad N σ)) (hS : va_S A H0 H locs) (k t0 : Nat) (hk : k < N) {cA : ClassId} {n : Nat} (hE : ∀ g, cell k g (σ.2 k) = .inl (cA, n, .inl g)) (ht : tys[t0]? = some (cA, .byte)) {i x : Int32} {K : S2 → Option β} (h : ck n i (nm (ux_wI σ k i.toNatClampNeg (vp_nar .byte x)) K) = some o) (hdg : decode cc pc = .ok (.bastore, 1))
    (kk : ∀ (σ1 : S2) (H1 : Heap) (locs1 : List Loc), K σ1 = some o → va_P D cl (wG cell ad N σ1) H1 → va_D A (wG cell ad N σ1) → va_S A H0 H1 locs1 → W p l e R s m args below meth c H1 locs1 cells slots Q (F0 m (pc + 1) ls rest)) : W p l e R s m args below meth c H locs cells slots Q (F0 m pc ls (.int x :: .int i :: .ref (ad k) :: rest)) := by
  obtain ⟨hin, h⟩ := ckS h
  refine va_bast hexec hb hK hP hD hS k t0 (wG_of hk (hE _)) ht hin hdg fun H1 locs1 hP hD hS => ?_
  rw [wG_setI (hE _)] at hP hD
  exact kk _ H1 locs1 h hP hD hS
theorem ux_zast (hexec : p.tables.exec = Jvm.exec) (hb : c.code = cc) (hK : va_K D cl tys s) (hP : va_P D cl (wG cell ad N σ) H) (hD : va_D A (wG cell ad N σ)) (hS : va_S A H0 H locs) (k t0 : Nat) (hk : k < N) {cA : ClassId} {n : Nat} (hE : ∀ g, cell k g (σ.2 k) = .inl (cA, n, .inl g)) (ht : tys[t0]? = some (cA, .boolean)) {i x : Int32} {K : S2 → Option β} (h : ck n i (nm (ux_wI σ k i.toNatClampNeg (vp_nar .boolean x)) K) = some o) (hdg : decode cc pc = .ok (.bastore, 1))
    (kk : ∀ (σ1 : S2) (H1 : Heap) (locs1 : List Loc), K σ1 = some o → va_P D cl (wG cell ad N σ1) H1 → va_D A (wG cell ad N σ1) → va_S A H0 H1 locs1 → W p l e R s m args below meth c H1 locs1 cells slots Q (F0 m (pc + 1) ls rest)) : W p l e R s m args below meth c H locs cells slots Q (F0 m pc ls (.int x :: .int i :: .ref (ad k) :: rest)) := by
  obtain ⟨hin, h⟩ := ckS h
  refine va_zast hexec hb hK hP hD hS k t0 (wG_of hk (hE _)) ht hin hdg fun H1 locs1 hP hD hS => ?_
  rw [wG_setI (hE _)] at hP hD
  exact kk _ H1 locs1 h hP hD hS
theorem ux_sast (hexec : p.tables.exec = Jvm.exec) (hb : c.code = cc) (hK : va_K D cl tys s) (hP : va_P D cl (wG cell ad N σ) H) (hD : va_D A (wG cell ad N σ)) (hS : va_S A H0 H locs) (k t0 : Nat) (hk : k < N) {cA : ClassId} {n : Nat} (hE : ∀ g, cell k g (σ.2 k) = .inl (cA, n, .inl g)) (ht : tys[t0]? = some (cA, .short)) {i x : Int32} {K : S2 → Option β} (h : ck n i (nm (ux_wI σ k i.toNatClampNeg (vp_nar .short x)) K) = some o) (hdg : decode cc pc = .ok (.sastore, 1))
    (kk : ∀ (σ1 : S2) (H1 : Heap) (locs1 : List Loc), K σ1 = some o → va_P D cl (wG cell ad N σ1) H1 → va_D A (wG cell ad N σ1) → va_S A H0 H1 locs1 → W p l e R s m args below meth c H1 locs1 cells slots Q (F0 m (pc + 1) ls rest)) : W p l e R s m args below meth c H locs cells slots Q (F0 m pc ls (.int x :: .int i :: .ref (ad k) :: rest)) := by
  obtain ⟨hin, h⟩ := ckS h
  refine va_sast hexec hb hK hP hD hS k t0 (wG_of hk (hE _)) ht hin hdg fun H1 locs1 hP hD hS => ?_
  rw [wG_setI (hE _)] at hP hD
  exact kk _ H1 locs1 h hP hD hS
theorem ux_last (hexec : p.tables.exec = Jvm.exec) (hb : c.code = cc) (hK : va_K D cl tys s) (hP : va_P D cl (wG cell ad N σ) H) (hD : va_D A (wG cell ad N σ)) (hS : va_S A H0 H locs) (k t0 : Nat) (hk : k < N) {cA : ClassId} {n : Nat} (hE : ∀ g, cell k (σ.1 k) g = .inl (cA, n, .inr (.inl g))) (ht : tys[t0]? = some (cA, .long)) {i : Int32} {x : Int64} {K : S2 → Option β} (h : ck n i (nm (ux_wL σ k i.toNatClampNeg x) K) = some o) (hdg : decode cc pc = .ok (.lastore, 1))
    (kk : ∀ (σ1 : S2) (H1 : Heap) (locs1 : List Loc), K σ1 = some o → va_P D cl (wG cell ad N σ1) H1 → va_D A (wG cell ad N σ1) → va_S A H0 H1 locs1 → W p l e R s m args below meth c H1 locs1 cells slots Q (F0 m (pc + 1) ls rest)) : W p l e R s m args below meth c H locs cells slots Q (F0 m pc ls (.long x :: .int i :: .ref (ad k) :: rest)) := by
  obtain ⟨hin, h⟩ := ckS h
  refine va_last hexec hb hK hP hD hS k t0 (wG_of hk (hE _)) ht hin hdg fun H1 locs1 hP hD hS => ?_
  rw [wG_setL (hE _)] at hP hD
  exact kk _ H1 locs1 h hP hD hS
theorem ux_get (hexec : p.tables.exec = Jvm.exec) (hb : c.code = cc) {own ref C : String} {T : u_T} {M ci index : Nat} {Ts : List Cond} (hts : ∀ w ∈ Ts, w.before args s = true) (hin : ∀ w ∈ u_ws C T M, w ∈ Ts) (hown : s.vm.findClass own = some m.cls) (hK : va_K D cl tys s) (hP : va_P D cl (wG cell ad N σ) H) (q0 : Nat) (hk0 : q0 < N) {fs : List Value} (he : cell q0 (σ.1 q0) (σ.2 q0) = .inr (ci, fs)) (hc : cl[ci]? = some (C, T, M)) (k : Nat) (hk : k < M) (hlink : (Cond.fieldLink own index ref (T k).2.1 (T k).2.2.1).before args s = true) (hsame : ∀ x, s.fieldFound? (T k).1 (T k).2.1 (T k).2.2.1 = some x → s.fieldFound? ref (T k).2.1 (T k).2.2.1 = some x) {v : Value} (hv : fs[k]? = some v) (hdg : decode cc pc = .ok (.getfield index, 3))
    (kk : W p l e R s m args below meth c H locs cells slots Q (F0 m (pc + 3) ls (v :: rest))) : W p l e R s m args below meth c H locs cells slots Q (F0 m pc ls (.ref (ad q0) :: rest)) :=
  va_get hexec hb hts hin hown hK hP q0 (wG_of hk0 he) hc k hk hlink hsame hv hdg kk
theorem ux_put (hexec : p.tables.exec = Jvm.exec) (hb : c.code = cc) {own ref C : String} {T : u_T} {M ci index : Nat} {Ts : List Cond} (hts : ∀ w ∈ Ts, w.before args s = true) (hin : ∀ w ∈ u_ws C T M, w ∈ Ts) (ty0 : Nat → FieldType) (hty : ∀ k, k < M → parseFieldDescriptor (T k).2.2.1 = some (ty0 k)) (hnm : ∀ a, a < M → ∀ b, b < M → a ≠ b → (T a).2.1 ≠ (T b).2.1) (hown : s.vm.findClass own = some m.cls) (hK : va_K D cl tys s) (hP : va_P D cl (wG cell ad N σ) H) (hD : va_D A (wG cell ad N σ)) (hS : va_S A H0 H locs) (q0 : Nat) (hk0 : q0 < N) {fs : List Value} (he : cell q0 (σ.1 q0) (σ.2 q0) = .inr (ci, fs)) (hc : cl[ci]? = some (C, T, M)) (k : Nat) (hk : k < M) (hlink : (Cond.fieldLink own index ref (T k).2.1 (T k).2.2.1).before args s = true) (hsame : ∀ x, s.fieldFound? (T k).1 (T k).2.1 (T k).2.2.1 = some x → s.fieldFound? ref (T k).2.1 (T k).2.2.1 = some x) (hfin : (T k).2.2.2 = false) {ty : FieldType} {x : Int32} (hd : parseFieldDescriptor (T k).2.2.1 = some ty) (hn : narrow ty (.int x) = .int x) (hfit : fits ty (.int x) = true) (hl : k < fs.length) (hset : cell q0 (upd (σ.1 q0) k x) (σ.2 q0) = .inr (ci, fs.set k (.int x))) {K : S2 → Option β} (h : nm (ux_wI σ q0 k x) K = some o)
    (hdg : decode cc pc = .ok (.putfield index, 3)) (kk : ∀ (σ1 : S2) (H1 : Heap) (locs1 : List Loc), K σ1 = some o → va_P D cl (wG cell ad N σ1) H1 → va_D A (wG cell ad N σ1) → va_S A H0 H1 locs1 → W p l e R s m args below meth c H1 locs1 cells slots Q (F0 m (pc + 3) ls rest)) : W p l e R s m args below meth c H locs cells slots Q (F0 m pc ls (.int x :: .ref (ad q0) :: rest)) := by
  refine va_put hexec hb hts hin ty0 hty hnm hown hK hP hD hS q0 (wG_of hk0 he) hc k hk hlink hsame hfin hd hn hfit hl hdg fun H1 locs1 hP hD hS => ?_
  rw [wG_setI hset] at hP hD
  exact kk _ H1 locs1 h hP hD hS
theorem ux_alen (hexec : p.tables.exec = Jvm.exec) (hb : c.code = cc) (hK : va_K D cl tys s) (hP : va_P D cl (wG cell ad N σ) H) (k t0 : Nat) (hk : k < N) {cA : ClassId} {x : vp_A} (hE : cell k (σ.1 k) (σ.2 k) = .inl (cA, x)) {ty : FieldType} (ht : tys[t0]? = some (cA, ty)) {v : Int32} (hv : Int32.ofNat x.1 = v) (hdg : decode cc pc = .ok (.arraylength, 1))
    (kk : W p l e R s m args below meth c H locs cells slots Q (F0 m (pc + 1) ls (.int v :: rest))) : W p l e R s m args below meth c H locs cells slots Q (F0 m pc ls (.ref (ad k) :: rest)) :=
  va_alen hexec hb hK hP k t0 (wG_of hk hE) ht hv hdg kk
theorem ux_calli {st0 : List Value} {r0 : Int32} {σ1 : S2} {a : Array Value} (hr : va_Run p l e R s m args below meth c H locs cells slots 0 0 (F0 m pc ls st0) rest (va_Qi (fun (r : Int32) (_ : Unit) => r = r0) (fun (_ : Unit) t => wAt D (va_A (wG cell ad N σ) H.size) (wG cell ad N σ1) t) (va_A (wG cell ad N σ) H.size) a) (va_A (wG cell ad N σ) H.size)) (hD : va_D A (wG cell ad N σ)) (hS : va_S A H0 H locs) (hA : ∀ q, H0.size ≤ q → A q)
    (kk : ∀ (H1 : Heap) (locs1 : List Loc), va_P D vwCl (wG cell ad N σ1) H1 → va_D A (wG cell ad N σ1) → va_S A H0 H1 locs1 → W p l e R s m args below meth c H1 locs1 cells slots Q (F0 m (pc + 3) ls (.int r0 :: rest))) : W p l e R s m args below meth c H locs cells slots Q (F0 m pc ls st0) := by
  have hF := va_AD hD hS hA
  refine va_calli hr hS (fun q _ h => hF q h) hF (fun r u t H1 locs1 ht hvm hw hB hz hk hS => ?_)
  obtain ⟨hP1, hD1⟩ := hB
  rw [ht] at hP1
  subst hw
  exact kk H1 locs1 hP1 (va_Dm hD1 hF) hS
theorem ux_calll {st0 : List Value} {r0 : Int64} {σ1 : S2} {a : Array Value} (hr : va_Run p l e R s m args below meth c H locs cells slots 0 0 (F0 m pc ls st0) rest (va_Ql (fun (r : Int64) (_ : Unit) => r = r0) (fun (_ : Unit) t => wAt D (va_A (wG cell ad N σ) H.size) (wG cell ad N σ1) t) (va_A (wG cell ad N σ) H.size) a) (va_A (wG cell ad N σ) H.size)) (hD : va_D A (wG cell ad N σ)) (hS : va_S A H0 H locs) (hA : ∀ q, H0.size ≤ q → A q)
    (kk : ∀ (H1 : Heap) (locs1 : List Loc), va_P D vwCl (wG cell ad N σ1) H1 → va_D A (wG cell ad N σ1) → va_S A H0 H1 locs1 → W p l e R s m args below meth c H1 locs1 cells slots Q (F0 m (pc + 3) ls (.long r0 :: rest))) : W p l e R s m args below meth c H locs cells slots Q (F0 m pc ls st0) := by
  have hF := va_AD hD hS hA
  refine va_calll hr hS (fun q _ h => hF q h) hF (fun r u t H1 locs1 ht hvm hw hB hz hk hS => ?_)
  obtain ⟨hP1, hD1⟩ := hB
  rw [ht] at hP1
  subst hw
  exact kk H1 locs1 hP1 (va_Dm hD1 hF) hS
theorem ux_callv {st0 : List Value} {σ1 : S2} {a : Array Value} (hr : va_Run p l e R s m args below meth c H locs cells slots 0 0 (F0 m pc ls st0) rest (va_Qv (fun (_ : Unit) => True) (fun (_ : Unit) t => wAt D (va_A (wG cell ad N σ) H.size) (wG cell ad N σ1) t) (va_A (wG cell ad N σ) H.size) a) (va_A (wG cell ad N σ) H.size)) (hD : va_D A (wG cell ad N σ)) (hS : va_S A H0 H locs) (hA : ∀ q, H0.size ≤ q → A q)
    (kk : ∀ (H1 : Heap) (locs1 : List Loc), va_P D vwCl (wG cell ad N σ1) H1 → va_D A (wG cell ad N σ1) → va_S A H0 H1 locs1 → W p l e R s m args below meth c H1 locs1 cells slots Q (F0 m (pc + 3) ls rest)) : W p l e R s m args below meth c H locs cells slots Q (F0 m pc ls st0) := by
  have hF := va_AD hD hS hA
  refine va_callv hr hS (fun q _ h => hF q h) hF (fun u t H1 locs1 ht hvm hw hB hz hk hS => ?_)
  obtain ⟨hP1, hD1⟩ := hB
  rw [ht] at hP1
  exact kk H1 locs1 hP1 (va_Dm hD1 hF) hS
end UX
