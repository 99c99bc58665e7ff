def oM (ad : Nat → Nat) (g : Nat → Int32) : List Value := [.int (g 0), .ref (ad 1), .ref (ad 2), .int (g 3), .ref (ad 3), .ref (ad 4), .ref (ad 5), .ref (ad 6), .ref (ad 7), .int (g 9), .ref (ad 8), .ref (ad 9), .ref (ad 10), .ref (ad 11), .ref (ad 12), .ref (ad 13), .ref (ad 14), .ref (ad 15), .ref (ad 16), .ref (ad 17), .ref (ad 18), .ref (ad 19), .int (g 22), .ref (ad 20), .ref (ad 21), .ref (ad 22), .ref (ad 23), .ref (ad 24), .ref (ad 25), .int (g 29), .int (g 30), .ref (ad 26), .int (g 32), .ref (ad 27), .int (g 34), .ref (ad 28), .int (g 36), .ref (ad 29), .int (g 38), .ref (ad 30), .ref (ad 31), .ref (ad 32), .ref (ad 33), .ref (ad 34), .int (g 44), .int (g 45), .int (g 46), .int (g 47), .int (g 48), .int (g 49), .int (g 50), .int (g 51), .ref (ad 35), .int (g 53), .ref (ad 36), .int (g 55), .ref (ad 37), .ref (ad 38), .ref (ad 39)]
def cM (cy : Nat → ClassId) (ad : Nat → Nat) (k : Nat) (g : Nat → Int32) (q : Nat → Int64) : va_E := match k with
  | 0 => .inr (12, oM ad g)
  | 1 => .inl (cy 0, 40, .inl g)
  | 2 => .inl (cy 0, 240, .inl g)
  | 3 => .inl (cy 0, 12, .inl g)
  | 4 => .inl (cy 0, 12, .inl g)
  | 5 => .inl (cy 0, 12, .inl g)
  | 6 => .inl (cy 0, 12, .inl g)
  | 7 => .inl (cy 2, 12, .inl g)
  | 8 => .inl (cy 0, 11, .inl g)
  | 9 => .inl (cy 0, 11, .inl g)
  | 10 => .inl (cy 0, 11, .inl g)
  | 11 => .inl (cy 0, 11, .inl g)
  | 12 => .inl (cy 0, 11, .inl g)
  | 13 => .inl (cy 0, 11, .inl g)
  | 14 => .inl (cy 0, 880, .inl g)
  | 15 => .inl (cy 0, 132, .inl g)
  | 16 => .inl (cy 0, 132, .inl g)
  | 17 => .inl (cy 0, 11, .inl g)
  | 18 => .inl (cy 0, 11000, .inl g)
  | 19 => .inl (cy 0, 80, .inl g)
  | 20 => .inl (cy 0, 480, .inl g)
  | 21 => .inl (cy 0, 480, .inl g)
  | 22 => .inl (cy 0, 480, .inl g)
  | 23 => .inl (cy 0, 480, .inl g)
  | 24 => .inl (cy 0, 480, .inl g)
  | 25 => .inl (cy 0, 40, .inl g)
  | 26 => .inl (cy 0, 5, .inl g)
  | 27 => .inl (cy 0, 5, .inl g)
  | 28 => .inl (cy 0, 6, .inl g)
  | 29 => .inl (cy 0, 24, .inl g)
  | 30 => .inl (cy 0, 6, .inl g)
  | 31 => .inl (cy 0, 6, .inl g)
  | 32 => .inl (cy 0, 6, .inl g)
  | 33 => .inl (cy 4, 360, .inr (.inl q))
  | 34 => .inl (cy 0, 6, .inl g)
  | 35 => .inl (cy 0, 12, .inl g)
  | 36 => .inl (cy 0, 4, .inl g)
  | 37 => .inl (cy 0, 12, .inl g)
  | 38 => .inl (cy 0, 1280, .inl g)
  | 39 => .inl (cy 0, 5, .inl g)
  | _ => .inr (12, [])
theorem cM_1 (cy : Nat → ClassId) (ad : Nat → Nat) (g : Nat → Int32) (q : Nat → Int64) : cM cy ad 1 g q = .inl (cy 0, 40, .inl g) := rfl
theorem cM_2 (cy : Nat → ClassId) (ad : Nat → Nat) (g : Nat → Int32) (q : Nat → Int64) : cM cy ad 2 g q = .inl (cy 0, 240, .inl g) := rfl
theorem cM_3 (cy : Nat → ClassId) (ad : Nat → Nat) (g : Nat → Int32) (q : Nat → Int64) : cM cy ad 3 g q = .inl (cy 0, 12, .inl g) := rfl
theorem cM_4 (cy : Nat → ClassId) (ad : Nat → Nat) (g : Nat → Int32) (q : Nat → Int64) : cM cy ad 4 g q = .inl (cy 0, 12, .inl g) := rfl
theorem cM_5 (cy : Nat → ClassId) (ad : Nat → Nat) (g : Nat → Int32) (q : Nat → Int64) : cM cy ad 5 g q = .inl (cy 0, 12, .inl g) := rfl
theorem cM_6 (cy : Nat → ClassId) (ad : Nat → Nat) (g : Nat → Int32) (q : Nat → Int64) : cM cy ad 6 g q = .inl (cy 0, 12, .inl g) := rfl
theorem cM_7 (cy : Nat → ClassId) (ad : Nat → Nat) (g : Nat → Int32) (q : Nat → Int64) : cM cy ad 7 g q = .inl (cy 2, 12, .inl g) := rfl
theorem cM_8 (cy : Nat → ClassId) (ad : Nat → Nat) (g : Nat → Int32) (q : Nat → Int64) : cM cy ad 8 g q = .inl (cy 0, 11, .inl g) := rfl
theorem cM_9 (cy : Nat → ClassId) (ad : Nat → Nat) (g : Nat → Int32) (q : Nat → Int64) : cM cy ad 9 g q = .inl (cy 0, 11, .inl g) := rfl
theorem cM_10 (cy : Nat → ClassId) (ad : Nat → Nat) (g : Nat → Int32) (q : Nat → Int64) : cM cy ad 10 g q = .inl (cy 0, 11, .inl g) := rfl
theorem cM_11 (cy : Nat → ClassId) (ad : Nat → Nat) (g : Nat → Int32) (q : Nat → Int64) : cM cy ad 11 g q = .inl (cy 0, 11, .inl g) := rfl
theorem cM_12 (cy : Nat → ClassId) (ad : Nat → Nat) (g : Nat → Int32) (q : Nat → Int64) : cM cy ad 12 g q = .inl (cy 0, 11, .inl g) := rfl
theorem cM_13 (cy : Nat → ClassId) (ad : Nat → Nat) (g : Nat → Int32) (q : Nat → Int64) : cM cy ad 13 g q = .inl (cy 0, 11, .inl g) := rfl
theorem cM_14 (cy : Nat → ClassId) (ad : Nat → Nat) (g : Nat → Int32) (q : Nat → Int64) : cM cy ad 14 g q = .inl (cy 0, 880, .inl g) := rfl
theorem cM_15 (cy : Nat → ClassId) (ad : Nat → Nat) (g : Nat → Int32) (q : Nat → Int64) : cM cy ad 15 g q = .inl (cy 0, 132, .inl g) := rfl
theorem cM_16 (cy : Nat → ClassId) (ad : Nat → Nat) (g : Nat → Int32) (q : Nat → Int64) : cM cy ad 16 g q = .inl (cy 0, 132, .inl g) := rfl
theorem cM_17 (cy : Nat → ClassId) (ad : Nat → Nat) (g : Nat → Int32) (q : Nat → Int64) : cM cy ad 17 g q = .inl (cy 0, 11, .inl g) := rfl
theorem cM_18 (cy : Nat → ClassId) (ad : Nat → Nat) (g : Nat → Int32) (q : Nat → Int64) : cM cy ad 18 g q = .inl (cy 0, 11000, .inl g) := rfl
theorem cM_19 (cy : Nat → ClassId) (ad : Nat → Nat) (g : Nat → Int32) (q : Nat → Int64) : cM cy ad 19 g q = .inl (cy 0, 80, .inl g) := rfl
theorem cM_20 (cy : Nat → ClassId) (ad : Nat → Nat) (g : Nat → Int32) (q : Nat → Int64) : cM cy ad 20 g q = .inl (cy 0, 480, .inl g) := rfl
theorem cM_21 (cy : Nat → ClassId) (ad : Nat → Nat) (g : Nat → Int32) (q : Nat → Int64) : cM cy ad 21 g q = .inl (cy 0, 480, .inl g) := rfl
theorem cM_22 (cy : Nat → ClassId) (ad : Nat → Nat) (g : Nat → Int32) (q : Nat → Int64) : cM cy ad 22 g q = .inl (cy 0, 480, .inl g) := rfl
theorem cM_23 (cy : Nat → ClassId) (ad : Nat → Nat) (g : Nat → Int32) (q : Nat → Int64) : cM cy ad 23 g q = .inl (cy 0, 480, .inl g) := rfl
theorem cM_24 (cy : Nat → ClassId) (ad : Nat → Nat) (g : Nat → Int32) (q : Nat → Int64) : cM cy ad 24 g q = .inl (cy 0, 480, .inl g) := rfl
theorem cM_25 (cy : Nat → ClassId) (ad : Nat → Nat) (g : Nat → Int32) (q : Nat → Int64) : cM cy ad 25 g q = .inl (cy 0, 40, .inl g) := rfl
theorem cM_26 (cy : Nat → ClassId) (ad : Nat → Nat) (g : Nat → Int32) (q : Nat → Int64) : cM cy ad 26 g q = .inl (cy 0, 5, .inl g) := rfl
theorem cM_27 (cy : Nat → ClassId) (ad : Nat → Nat) (g : Nat → Int32) (q : Nat → Int64) : cM cy ad 27 g q = .inl (cy 0, 5, .inl g) := rfl
theorem cM_28 (cy : Nat → ClassId) (ad : Nat → Nat) (g : Nat → Int32) (q : Nat → Int64) : cM cy ad 28 g q = .inl (cy 0, 6, .inl g) := rfl
theorem cM_29 (cy : Nat → ClassId) (ad : Nat → Nat) (g : Nat → Int32) (q : Nat → Int64) : cM cy ad 29 g q = .inl (cy 0, 24, .inl g) := rfl
theorem cM_30 (cy : Nat → ClassId) (ad : Nat → Nat) (g : Nat → Int32) (q : Nat → Int64) : cM cy ad 30 g q = .inl (cy 0, 6, .inl g) := rfl
theorem cM_31 (cy : Nat → ClassId) (ad : Nat → Nat) (g : Nat → Int32) (q : Nat → Int64) : cM cy ad 31 g q = .inl (cy 0, 6, .inl g) := rfl
theorem cM_32 (cy : Nat → ClassId) (ad : Nat → Nat) (g : Nat → Int32) (q : Nat → Int64) : cM cy ad 32 g q = .inl (cy 0, 6, .inl g) := rfl
theorem cM_33 (cy : Nat → ClassId) (ad : Nat → Nat) (g : Nat → Int32) (q : Nat → Int64) : cM cy ad 33 g q = .inl (cy 4, 360, .inr (.inl q)) := rfl
theorem cM_34 (cy : Nat → ClassId) (ad : Nat → Nat) (g : Nat → Int32) (q : Nat → Int64) : cM cy ad 34 g q = .inl (cy 0, 6, .inl g) := rfl
theorem cM_35 (cy : Nat → ClassId) (ad : Nat → Nat) (g : Nat → Int32) (q : Nat → Int64) : cM cy ad 35 g q = .inl (cy 0, 12, .inl g) := rfl
theorem cM_36 (cy : Nat → ClassId) (ad : Nat → Nat) (g : Nat → Int32) (q : Nat → Int64) : cM cy ad 36 g q = .inl (cy 0, 4, .inl g) := rfl
theorem cM_37 (cy : Nat → ClassId) (ad : Nat → Nat) (g : Nat → Int32) (q : Nat → Int64) : cM cy ad 37 g q = .inl (cy 0, 12, .inl g) := rfl
theorem cM_38 (cy : Nat → ClassId) (ad : Nat → Nat) (g : Nat → Int32) (q : Nat → Int64) : cM cy ad 38 g q = .inl (cy 0, 1280, .inl g) := rfl
theorem cM_39 (cy : Nat → ClassId) (ad : Nat → Nat) (g : Nat → Int32) (q : Nat → Int64) : cM cy ad 39 g q = .inl (cy 0, 5, .inl g) := rfl
theorem oM_set_0 (cy : Nat → ClassId) (ad : Nat → Nat) (g : Nat → Int32) (q : Nat → Int64) (x : Int32) : cM cy ad 0 (upd g 0 x) q = .inr (12, (oM ad g).set 0 (.int x)) := rfl
theorem oM_set_3 (cy : Nat → ClassId) (ad : Nat → Nat) (g : Nat → Int32) (q : Nat → Int64) (x : Int32) : cM cy ad 0 (upd g 3 x) q = .inr (12, (oM ad g).set 3 (.int x)) := rfl
theorem oM_set_9 (cy : Nat → ClassId) (ad : Nat → Nat) (g : Nat → Int32) (q : Nat → Int64) (x : Int32) : cM cy ad 0 (upd g 9 x) q = .inr (12, (oM ad g).set 9 (.int x)) := rfl
theorem oM_set_22 (cy : Nat → ClassId) (ad : Nat → Nat) (g : Nat → Int32) (q : Nat → Int64) (x : Int32) : cM cy ad 0 (upd g 22 x) q = .inr (12, (oM ad g).set 22 (.int x)) := rfl
theorem oM_set_29 (cy : Nat → ClassId) (ad : Nat → Nat) (g : Nat → Int32) (q : Nat → Int64) (x : Int32) : cM cy ad 0 (upd g 29 x) q = .inr (12, (oM ad g).set 29 (.int x)) := rfl
theorem oM_set_30 (cy : Nat → ClassId) (ad : Nat → Nat) (g : Nat → Int32) (q : Nat → Int64) (x : Int32) : cM cy ad 0 (upd g 30 x) q = .inr (12, (oM ad g).set 30 (.int x)) := rfl
theorem oM_set_32 (cy : Nat → ClassId) (ad : Nat → Nat) (g : Nat → Int32) (q : Nat → Int64) (x : Int32) : cM cy ad 0 (upd g 32 x) q = .inr (12, (oM ad g).set 32 (.int x)) := rfl
theorem oM_set_34 (cy : Nat → ClassId) (ad : Nat → Nat) (g : Nat → Int32) (q : Nat → Int64) (x : Int32) : cM cy ad 0 (upd g 34 x) q = .inr (12, (oM ad g).set 34 (.int x)) := rfl
theorem oM_set_36 (cy : Nat → ClassId) (ad : Nat → Nat) (g : Nat → Int32) (q : Nat → Int64) (x : Int32) : cM cy ad 0 (upd g 36 x) q = .inr (12, (oM ad g).set 36 (.int x)) := rfl
theorem oM_set_38 (cy : Nat → ClassId) (ad : Nat → Nat) (g : Nat → Int32) (q : Nat → Int64) (x : Int32) : cM cy ad 0 (upd g 38 x) q = .inr (12, (oM ad g).set 38 (.int x)) := rfl
theorem oM_set_44 (cy : Nat → ClassId) (ad : Nat → Nat) (g : Nat → Int32) (q : Nat → Int64) (x : Int32) : cM cy ad 0 (upd g 44 x) q = .inr (12, (oM ad g).set 44 (.int x)) := rfl
theorem oM_set_45 (cy : Nat → ClassId) (ad : Nat → Nat) (g : Nat → Int32) (q : Nat → Int64) (x : Int32) : cM cy ad 0 (upd g 45 x) q = .inr (12, (oM ad g).set 45 (.int x)) := rfl
theorem oM_set_46 (cy : Nat → ClassId) (ad : Nat → Nat) (g : Nat → Int32) (q : Nat → Int64) (x : Int32) : cM cy ad 0 (upd g 46 x) q = .inr (12, (oM ad g).set 46 (.int x)) := rfl
theorem oM_set_47 (cy : Nat → ClassId) (ad : Nat → Nat) (g : Nat → Int32) (q : Nat → Int64) (x : Int32) : cM cy ad 0 (upd g 47 x) q = .inr (12, (oM ad g).set 47 (.int x)) := rfl
theorem oM_set_48 (cy : Nat → ClassId) (ad : Nat → Nat) (g : Nat → Int32) (q : Nat → Int64) (x : Int32) : cM cy ad 0 (upd g 48 x) q = .inr (12, (oM ad g).set 48 (.int x)) := rfl
theorem oM_set_49 (cy : Nat → ClassId) (ad : Nat → Nat) (g : Nat → Int32) (q : Nat → Int64) (x : Int32) : cM cy ad 0 (upd g 49 x) q = .inr (12, (oM ad g).set 49 (.int x)) := rfl
theorem oM_set_50 (cy : Nat → ClassId) (ad : Nat → Nat) (g : Nat → Int32) (q : Nat → Int64) (x : Int32) : cM cy ad 0 (upd g 50 x) q = .inr (12, (oM ad g).set 50 (.int x)) := rfl
theorem oM_set_51 (cy : Nat → ClassId) (ad : Nat → Nat) (g : Nat → Int32) (q : Nat → Int64) (x : Int32) : cM cy ad 0 (upd g 51 x) q = .inr (12, (oM ad g).set 51 (.int x)) := rfl
theorem oM_set_53 (cy : Nat → ClassId) (ad : Nat → Nat) (g : Nat → Int32) (q : Nat → Int64) (x : Int32) : cM cy ad 0 (upd g 53 x) q = .inr (12, (oM ad g).set 53 (.int x)) := rfl
theorem oM_set_55 (cy : Nat → ClassId) (ad : Nat → Nat) (g : Nat → Int32) (q : Nat → Int64) (x : Int32) : cM cy ad 0 (upd g 55 x) q = .inr (12, (oM ad g).set 55 (.int x)) := rfl
def FU : Nat := 100000
def zb {β : Type} (v : Int32) (K : Option β) : Option β := if narrow .boolean (.int v) = .int v then K else none
theorem zbS {β : Type} {v : Int32} {K : Option β} {o : β} (h : zb v K = some o) : narrow .boolean (.int v) = .int v ∧ K = some o := by
  unfold zb at h
  split at h
  · exact ⟨by assumption, h⟩
  · cases h
def zf {β : Type} (v : Int32) (K : Option β) : Option β := if narrow .boolean (.int v) = .int v ∧ fits .boolean (.int v) = true then K else none
theorem zfS {β : Type} {v : Int32} {K : Option β} {o : β} (h : zf v K = some o) : (narrow .boolean (.int v) = .int v ∧ fits .boolean (.int v) = true) ∧ K = some o := by
  unfold zf at h
  split at h
  · exact ⟨by assumption, h⟩
  · cases h
section UR
variable {p : Program} {l : Launch} {e : Env} {R : Room} {s : State} {m : MethodId} {args : Array Value} {below : List Frame} {meth : Method} {c : Code} {H : Heap} {locs : List Loc} {cells slots : Nat} {pc : Nat} {ls : Array Slot} {cc : ByteArray}
variable {cell : ux_F} {ad : Nat → Nat} {N : Nat} {σ σ9 : S2} {D : va_G} {A : Nat → Prop} {H0 : Heap}
theorem ux_iret (hx : p.tables.exec = Jvm.exec) (hb : c.code = cc) (hr : meth.sig.returnType = some .int) {v r0 : Int32} (h : some (v, σ) = some (r0, σ9)) (hP : va_P D vwCl (wG cell ad N σ) H) (hD : va_D A (wG cell ad N σ)) (hS : va_S A s.heap H locs) (hlocks : meth.locks = false) (hdg : decode cc pc = .ok (.ireturn, 1)) : W p l e R s m args below meth c H locs cells slots (MQ below (va_Qi (fun (r : Int32) (_ : Unit) => r = r0) (fun (_ : Unit) t => wAt D A (wG cell ad N σ9) t) A) args s cells slots A) (F0 m pc ls [.int v]) := by
  cases h
  exact W.iret (v := v) hx hb hr (fun t ht hW => ⟨⟨v, (), rfl, rfl, ⟨by rw [ht]; exact hP, hD⟩⟩, hS.F ht⟩) hS.2.2 hdg
theorem ux_zret (hx : p.tables.exec = Jvm.exec) (hb : c.code = cc) (hr : meth.sig.returnType = some .boolean) {v r0 : Int32} (hn : narrow .boolean (.int v) = .int v) (h : some (v, σ) = some (r0, σ9)) (hP : va_P D vwCl (wG cell ad N σ) H) (hD : va_D A (wG cell ad N σ)) (hS : va_S A s.heap H locs) (hlocks : meth.locks = false) (hdg : decode cc pc = .ok (.ireturn, 1)) : W p l e R s m args below meth c H locs cells slots (MQ below (va_Qi (fun (r : Int32) (_ : Unit) => r = r0) (fun (_ : Unit) t => wAt D A (wG cell ad N σ9) t) A) args s cells slots A) (F0 m pc ls [.int v]) := by
  cases h
  exact W.zret (v := v) hx hb hr hn (fun t ht hW => ⟨⟨v, (), rfl, rfl, ⟨by rw [ht]; exact hP, hD⟩⟩, hS.F ht⟩) hS.2.2 hdg
theorem ux_lret (hx : p.tables.exec = Jvm.exec) (hb : c.code = cc) (hr : meth.sig.returnType = some .long) {v r0 : Int64} (h : some (v, σ) = some (r0, σ9)) (hP : va_P D vwCl (wG cell ad N σ) H) (hD : va_D A (wG cell ad N σ)) (hS : va_S A s.heap H locs) (hlocks : meth.locks = false) (hdg : decode cc pc = .ok (.lreturn, 1)) : W p l e R s m args below meth c H locs cells slots (MQ below (va_Ql (fun (r : Int64) (_ : Unit) => r = r0) (fun (_ : Unit) t => wAt D A (wG cell ad N σ9) t) A) args s cells slots A) (F0 m pc ls [.long v]) := by
  cases h
  exact W.lret (v := v) hx hb hr (fun t ht hW => ⟨⟨v, (), rfl, rfl, ⟨by rw [ht]; exact hP, hD⟩⟩, hS.F ht⟩) hS.2.2 hdg
theorem ux_vret (hx : p.tables.exec = Jvm.exec) (hb : c.code = cc) (hr : meth.sig.returnType = none) {r0 : Unit} (h : some ((), σ) = some (r0, σ9)) (hP : va_P D vwCl (wG cell ad N σ) H) (hD : va_D A (wG cell ad N σ)) (hS : va_S A s.heap H locs) (hlocks : meth.locks = false) (hdg : decode cc pc = .ok (.return_, 1)) : W p l e R s m args below meth c H locs cells slots (MQ below (va_Qv (fun (_ : Unit) => True) (fun (_ : Unit) t => wAt D A (wG cell ad N σ9) t) A) args s cells slots A) (F0 m pc ls []) := by
  cases h
  exact W.vret hx hb hr (fun t ht hW => ⟨⟨(), rfl, trivial, ⟨by rw [ht]; exact hP, hD⟩⟩, hS.F ht⟩) hS.2.2 hdg
theorem ux_iretP (hx : p.tables.exec = Jvm.exec) (hb : c.code = cc) (hr : meth.sig.returnType = some .int) {v r0 : Int32} (h : some v = some r0) (hP : va_P D vwCl (wG cell ad N σ) H) (hD : va_D A (wG cell ad N σ)) (hS : va_S A s.heap H locs) (hlocks : meth.locks = false) (hdg : decode cc pc = .ok (.ireturn, 1)) : W p l e R s m args below meth c H locs cells slots (MQ below (va_Qi (fun (r : Int32) (_ : Unit) => r = r0) (fun (_ : Unit) t => wAt D A (wG cell ad N σ) t) A) args s cells slots A) (F0 m pc ls [.int v]) := by
  cases h
  exact W.iret (v := v) hx hb hr (fun t ht hW => ⟨⟨v, (), rfl, rfl, ⟨by rw [ht]; exact hP, hD⟩⟩, hS.F ht⟩) hS.2.2 hdg
theorem ux_zretP (hx : p.tables.exec = Jvm.exec) (hb : c.code = cc) (hr : meth.sig.returnType = some .boolean) {v r0 : Int32} (hn : narrow .boolean (.int v) = .int v) (h : some v = some r0) (hP : va_P D vwCl (wG cell ad N σ) H) (hD : va_D A (wG cell ad N σ)) (hS : va_S A s.heap H locs) (hlocks : meth.locks = false) (hdg : decode cc pc = .ok (.ireturn, 1)) : W p l e R s m args below meth c H locs cells slots (MQ below (va_Qi (fun (r : Int32) (_ : Unit) => r = r0) (fun (_ : Unit) t => wAt D A (wG cell ad N σ) t) A) args s cells slots A) (F0 m pc ls [.int v]) := by
  cases h
  exact W.zret (v := v) hx hb hr hn (fun t ht hW => ⟨⟨v, (), rfl, rfl, ⟨by rw [ht]; exact hP, hD⟩⟩, hS.F ht⟩) hS.2.2 hdg
theorem ux_lretP (hx : p.tables.exec = Jvm.exec) (hb : c.code = cc) (hr : meth.sig.returnType = some .long) {v r0 : Int64} (h : some v = some r0) (hP : va_P D vwCl (wG cell ad N σ) H) (hD : va_D A (wG cell ad N σ)) (hS : va_S A s.heap H locs) (hlocks : meth.locks = false) (hdg : decode cc pc = .ok (.lreturn, 1)) : W p l e R s m args below meth c H locs cells slots (MQ below (va_Ql (fun (r : Int64) (_ : Unit) => r = r0) (fun (_ : Unit) t => wAt D A (wG cell ad N σ) t) A) args s cells slots A) (F0 m pc ls [.long v]) := by
  cases h
  exact W.lret (v := v) hx hb hr (fun t ht hW => ⟨⟨v, (), rfl, rfl, ⟨by rw [ht]; exact hP, hD⟩⟩, hS.F ht⟩) hS.2.2 hdg
end UR
