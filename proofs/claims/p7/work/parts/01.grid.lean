section
/-! ===== BEGIN words of one list among another's, by their places ===== -/
theorem goodIn_r {big : List Cond} (ws : List Cond) (ps : List Nat) (hp : ws = ps.filterMap (fun i => big[i]?)) (h : ws.all goodWord = true) : GoodIn big ws := by
  intro w hw
  have h1 := List.all_eq_true.mp h w hw
  rw [hp] at hw
  obtain ⟨i, -, hi⟩ := List.mem_filterMap.mp hw
  have hm : w ∈ big := by first | exact List.mem_of_getElem? hi | exact List.getElem?_mem hi
  exact ⟨hm, good_of_word h1⟩
theorem goodIn_app {big a b : List Cond} (ha : GoodIn big a) (hb : GoodIn big b) : GoodIn big (a ++ b) := fun w h => (List.mem_append.mp h).elim (ha w) (hb w)
theorem goodIn_ca {big a b : List Cond} {c : Cond} (ha : GoodIn big (c :: a)) (hb : GoodIn big b) : GoodIn big (c :: (a ++ b)) := fun w h => (List.mem_cons.mp h).elim (fun e => ha w (List.mem_cons.mpr (Or.inl e))) (fun h => (List.mem_append.mp h).elim (fun h => ha w (List.mem_cons.mpr (Or.inr h))) (hb w))
theorem goodIn_sub {big ws : List Cond} (hm : ∀ w ∈ ws, w ∈ big) (h : ws.all goodWord = true) : GoodIn big ws := fun w hw => ⟨hm w hw, good_of_word (List.all_eq_true.mp h w hw)⟩
/-! ===== END ===== -/

/-! ===== BEGIN new T[n][m]: the outer array a place, the inner ones among the pooled ===== -/
/-- f, but v at every address of l -/
noncomputable def vr_up {α : Type} (f : Nat → α) (l : List Nat) (v : α) : Nat → α := fun a => if a ∈ l then v else f a
theorem vr_up_in {α : Type} {f : Nat → α} {l : List Nat} {v : α} {a : Nat} (h : a ∈ l) : vr_up f l v a = v := if_pos h
theorem vr_up_ne {α : Type} {f : Nat → α} {l : List Nat} {v : α} {a : Nat} (h : a ∉ l) : vr_up f l v a = f a := if_neg h
theorem vr_rows {L l : List Nat} {f : Nat → va_E} {e : va_E} (h : ∀ a, a ∈ l → a ∉ L) : va_pl L f ++ l.map (fun a => (a, e)) = va_pl (L ++ l) (vr_up f l e) := by
  unfold va_pl
  rw [List.map_append]
  congr 1
  · apply List.map_congr_left
    intro a ha
    rw [vr_up_ne (fun q => h a q ha)]
  · apply List.map_congr_left
    intro a ha
    rw [vr_up_in ha]
theorem vr_lay {X rows : va_W} {x : Nat × va_E} {pl : va_W} {D : va_G} {cl : List vw_C} {H : Heap} (hP : va_P D cl (((X ++ pl) ++ [x]) ++ rows) H) : va_P D cl ((X ++ [x]) ++ (pl ++ rows)) H := by
  rw [List.append_assoc (X ++ pl)] at hP
  have h := va_P.swap hP
  rw [← List.append_assoc X] at h
  have h2 := va_P.swap h
  rw [List.append_assoc (X ++ [x])] at h2
  exact h2
theorem vr_layD {X rows : va_W} {x : Nat × va_E} {pl : va_W} {A : Nat → Prop} (hD : va_D A (((X ++ pl) ++ [x]) ++ rows)) : va_D A ((X ++ [x]) ++ (pl ++ rows)) := by
  rw [List.append_assoc (X ++ pl)] at hD
  have h := va_D.swap hD
  rw [← List.append_assoc X] at h
  have h2 := va_D.swap h
  rw [List.append_assoc (X ++ [x])] at h2
  exact h2
theorem vr_outer (c : ClassId) (N h0 : Nat) : ∀ i : Nat, Jvm.Free.Multi.outerC c N h0 i = arrV c N (fun j => va_rf (if j < i then some (h0 + 1 + j) else none))
  | 0 => by
    show ({ cls := c, slots := Array.replicate N .null, vm := .none } : Cell) = _
    rw [arrV_new]
    refine congrArg (arrV c N) (funext fun j => ?_)
    simp [va_rf]
  | i + 1 => by
    show (Jvm.Free.Multi.outerC c N h0 i).setSlot i (.ref (h0 + 1 + i)) = _
    rw [vr_outer c N h0 i, arrV_store]
    refine congrArg (arrV c N) (funext fun j => ?_)
    by_cases e : j = i
    · subst e
      simp [updV, va_rf]
    · by_cases h : j < i
      · simp [updV, e, h, Nat.lt_succ_of_lt h]
      · simp [updV, e, h, show ¬ j < i + 1 by omega]
/-! the kit's names call on va_AOA, which no file of the kit has: here as va_AO has it, for an array's type -/
noncomputable def va_AOA (ty : FieldType) (U : State) : Prop := (Cond.arrayOver (.array ty)).before #[] U = true
theorem va_AOA.of {ty : FieldType} {A : Array Value} {U : State} (h : (Cond.arrayOver (.array ty)).before A U = true) : va_AOA ty U := h
theorem va_AOA.use {ty : FieldType} {A : Array Value} {U : State} (h : va_AOA ty U) : (Cond.arrayOver (.array ty)).before A U = true := h
theorem va_AOA.moved {ty : FieldType} {u U : State} (hvm : u.vm.Alike U.vm) (h : va_AOA ty u) : va_AOA ty U := Jvm.Stand.arrayOver_alikeB hvm h
section VGM
variable {p : Program} {l : Launch} {e : Env} {R : Room} {s : State} {m : MethodId} {args : Array Value} {below : List Frame} {meth : Method} {c : Code} {H : Heap} {locs : List Loc} {cells slots : Nat} {Q : State → Prop}
variable {cc : ByteArray} {pc : Nat} {ls : Array Slot} {rest : List Value} {D : va_G} {cl : List vw_C} {A : Nat → Prop} {a : Nat} {tys : List (ClassId × FieldType)} {ws : va_W} {H0 : Heap}
theorem va_mna {X : va_W} {L : List Nat} {f : Nat → va_E} {cc : ByteArray} (hexec : p.tables.exec = Jvm.exec) (hb : c.code = cc) {own : String} {index : Nat} {ty : FieldType} {cy : ClassId} (hown : s.vm.findClass own = some m.cls) (hclink : (Cond.classLink own index ("[" ++ (FieldType.array ty).toString)).before args s = true) (hover : va_AOA ty s) (harr : (Cond.arrayClass ty).before args s = true) (hcy : s.vm.findClass (FieldType.array ty).toString = some cy)
    (hK : va_K D cl tys s) (hP : va_P D cl (X ++ va_pl L f) H) (hD : va_D A (X ++ va_pl L f)) (hS : va_S A H0 H locs) (hA : ∀ q, H0.size ≤ q → A q) {n k : Int32} {N' K' : Nat} {z : vp_A} (hn : ¬ n < 0) (hk : ¬ k < 0) (hN : n.toNatClampNeg = N') (hM : k.toNatClampNeg = K')
    (hb1 : N' * 4 ≤ 536870912) (hb2 : K' * componentBytes ty ≤ 536870912) (hb3 : K' ≤ 536870912) (hdf : fits ty (defaultValue ty) = true) (hdd : (defaultValue ty).isDefault = true) (hcells : cells + (1 + N') ≤ R.cells) (hslots : slots + (N' + N' * K') ≤ R.slots) (hz : ∀ c : ClassId, Jvm.Free.Multi.innerC c K' (defaultValue ty) = vp_cell c z) (hdg : decode cc pc = .ok (.multianewarray index 2, 4))
    (kk : ∀ (q : Nat) (r : Nat → Nat) (cA : ClassId) (H1 : Heap), (∀ i j : Nat, i < N' → j < N' → r i = r j → i = j) → (∀ i : Nat, i < N' → r i ∉ L) → va_K D cl (tys ++ [(cA, .array ty)]) s →
      va_P D cl ((X ++ [(q, .inl (cA, N', .inr (.inr (.inr (.inr (fun i => if i < N' then some (r i) else none))))))]) ++ va_pl (L ++ (List.range N').map r) (vr_up f ((List.range N').map r) (.inl (cy, z)))) H1 → va_D A ((X ++ [(q, .inl (cA, N', .inr (.inr (.inr (.inr (fun i => if i < N' then some (r i) else none))))))]) ++ va_pl (L ++ (List.range N').map r) (vr_up f ((List.range N').map r) (.inl (cy, z)))) → va_S A H0 H1 locs →
      W p l e R s m args below meth c H1 locs (cells + 1 + N') (slots + N' + N' * K') Q (F0 m (pc + 4) ls (.ref q :: rest))) : W p l e R s m args below meth c H locs cells slots Q (F0 m pc ls (.int k :: .int n :: rest)) := by
  subst hN
  subst hM
  intro T hT Xs
  obtain ⟨vm₁, cA, comp, -, fA, fC, hO, -, X', step⟩ := Xs.multianewarray2F hexec hown hclink (va_AOA.use hover) harr (g := F0 m pc ls (.int k :: .int n :: rest)) rfl (by rw [hb]; exact hdg) rfl hn hk hb1 hb2 hb3 hdf hdd hcells hslots
  have ec : some cy = some comp := hcy.symm.trans fC
  cases ec
  generalize hF : Jvm.Free.Multi.fill (T.setVm vm₁) cA cy n.toNatClampNeg k.toNatClampNeg (defaultValue ty) n.toNatClampNeg = F at X' step
  have hTh : (T.setVm vm₁).heap = H := hT
  obtain ⟨f1, f2, -, -⟩ := Jvm.Free.Multi.fill_facts (T.setVm vm₁) cA cy n.toNatClampNeg k.toNatClampNeg (defaultValue ty) n.toNatClampNeg
  rw [hF, hTh] at f1 f2
  have hold : ∀ x : Nat, x < H.size → F.heap[x]? = H[x]? := fun x hx => by
    have := Jvm.Free.Multi.fill_old (T.setVm vm₁) cA cy n.toNatClampNeg k.toNatClampNeg (defaultValue ty) (a := x) (by rw [hTh]; exact hx) n.toNatClampNeg
    rw [hF, hTh] at this
    exact this
  have hrow : ∀ j : Nat, j < n.toNatClampNeg → F.heap[H.size + 1 + j]? = some (vp_cell cy z) := fun j hj => by
    have := Jvm.Free.Multi.fill_inner (T.setVm vm₁) cA cy n.toNatClampNeg k.toNatClampNeg (defaultValue ty) n.toNatClampNeg j hj
    rw [hF, hTh, hz] at this
    exact this
  have hout : Jvm.Free.Multi.outerC cA n.toNatClampNeg H.size n.toNatClampNeg = vp_cell cA (n.toNatClampNeg, .inr (.inr (.inr (.inr (fun i => if i < n.toNatClampNeg then some (H.size + 1 + i) else none))))) := by
    rw [vp_cell_q]
    exact vr_outer cA n.toNatClampNeg H.size n.toNatClampNeg
  rw [hout] at f2
  have hlt : ∀ a, a ∈ L → a < H.size := fun a ha => by
    obtain ⟨k9, hk9⟩ := va_pl_get (X := X) (f := f) ha
    exact (hP k9 _ hk9).lt
  have hnl : ∀ i : Nat, i < n.toNatClampNeg → H.size + 1 + i ∉ L := fun i _ h => by
    have := hlt _ h
    omega
  have hnm : ∀ a, a ∈ (List.range n.toNatClampNeg).map (fun i => H.size + 1 + i) → a ∉ L := fun a ha h => by
    obtain ⟨i, -, rfl⟩ := List.mem_map.mp ha
    have := hlt _ h
    omega
  have hP0 : va_P D cl (X ++ va_pl L f) F.heap := hP.kept (fun k9 x hx => hold x.1 ((hP k9 x hx).lt))
  have hP1 : va_P D cl ((X ++ va_pl L f) ++ [(H.size, .inl (cA, n.toNatClampNeg, .inr (.inr (.inr (.inr (fun i => if i < n.toNatClampNeg then some (H.size + 1 + i) else none))))))]) F.heap := hP0.app (fun k9 x hx => by
    have h0 : k9 < 1 := (List.getElem?_eq_some_iff.mp hx).1
    rw [show k9 = 0 by omega] at hx
    cases hx
    exact f2)
  have hP2 : va_P D cl (((X ++ va_pl L f) ++ [(H.size, .inl (cA, n.toNatClampNeg, .inr (.inr (.inr (.inr (fun i => if i < n.toNatClampNeg then some (H.size + 1 + i) else none))))))]) ++ ((List.range n.toNatClampNeg).map (fun i => H.size + 1 + i)).map (fun a => (a, .inl (cy, z)))) F.heap := hP1.app (fun k9 x hx => by
    obtain ⟨a, ha, rfl⟩ := List.mem_map.mp (List.mem_of_getElem? hx)
    obtain ⟨i, hi, rfl⟩ := List.mem_map.mp ha
    exact hrow i (List.mem_range.mp hi))
  have hD2 : va_D A (((X ++ va_pl L f) ++ [(H.size, .inl (cA, n.toNatClampNeg, .inr (.inr (.inr (.inr (fun i => if i < n.toNatClampNeg then some (H.size + 1 + i) else none))))))]) ++ ((List.range n.toNatClampNeg).map (fun i => H.size + 1 + i)).map (fun a => (a, .inl (cy, z)))) := by
    have hD1 := hD.push (e := .inl (cA, n.toNatClampNeg, .inr (.inr (.inr (.inr (fun i => if i < n.toNatClampNeg then some (H.size + 1 + i) else none)))))) hP rfl (hA _ hS.1)
    generalize hW1 : (X ++ va_pl L f) ++ [(H.size, .inl (cA, n.toNatClampNeg, .inr (.inr (.inr (.inr (fun i => if i < n.toNatClampNeg then some (H.size + 1 + i) else none))))))] = W1 at hD1 hP1 ⊢
    have hle : ∀ (k9 : Nat) (x : Nat × va_E), W1[k9]? = some x → x.1 ≤ H.size := fun k9 x hx => by
      rw [← hW1] at hx
      by_cases hl : k9 < (X ++ va_pl L f).length
      · rw [List.getElem?_append_left hl] at hx
        exact Nat.le_of_lt ((hP k9 x hx).lt)
      · rw [List.getElem?_append_right (by omega)] at hx
        have h0 : k9 - (X ++ va_pl L f).length < 1 := (List.getElem?_eq_some_iff.mp hx).1
        rw [show k9 - (X ++ va_pl L f).length = 0 by omega] at hx
        cases hx
        exact Nat.le_refl _
    have hr : ∀ (k9 : Nat) (x : Nat × va_E), (((List.range n.toNatClampNeg).map (fun i => H.size + 1 + i)).map (fun a => ((a, .inl (cy, z)) : Nat × va_E)))[k9]? = some x → x.1 = H.size + 1 + k9 := fun k9 x hx => by
      rw [List.getElem?_map, List.getElem?_map] at hx
      by_cases h9 : k9 < n.toNatClampNeg
      · rw [List.getElem?_range h9] at hx
        cases hx
        rfl
      · have hn0 : (List.range n.toNatClampNeg)[k9]? = none := List.getElem?_eq_none (by rw [List.length_range]; omega)
        rw [hn0] at hx
        cases hx
    refine ⟨fun i j x y hi hj hxy => ?_, fun k9 x hx => ?_⟩
    · by_cases h1 : i < W1.length <;> by_cases h2 : j < W1.length
      · rw [List.getElem?_append_left h1] at hi
        rw [List.getElem?_append_left h2] at hj
        exact hD1.1 i j x y hi hj hxy
      · rw [List.getElem?_append_left h1] at hi
        rw [List.getElem?_append_right (by omega)] at hj
        have := hle _ _ hi
        have := hr _ _ hj
        omega
      · rw [List.getElem?_append_right (by omega)] at hi
        rw [List.getElem?_append_left h2] at hj
        have := hle _ _ hj
        have := hr _ _ hi
        omega
      · rw [List.getElem?_append_right (by omega)] at hi hj
        have := hr _ _ hi
        have := hr _ _ hj
        omega
    · by_cases h1 : k9 < W1.length
      · rw [List.getElem?_append_left h1] at hx
        exact hD1.2 k9 x hx
      · rw [List.getElem?_append_right (by omega)] at hx
        have := hr _ _ hx
        exact hA _ (by have := hS.1; omega)
  have hAr : ArrOfT s cA (.array ty) := fun N9 z9 => by
    obtain ⟨-, k9, hk9, cm9, hkk9⟩ := (hO 0 0 0).1
    exact ⟨(fun q hq => by cases hq), k9, hk9, cm9, hkk9⟩
  have hK2 : va_K D cl (tys ++ [(cA, .array ty)]) s := ⟨hK.1, fun k9 x hx => by
    by_cases hl : k9 < tys.length
    · rw [List.getElem?_append_left hl] at hx
      exact hK.2 k9 x hx
    · rw [List.getElem?_append_right (by omega)] at hx
      have h0 : k9 - tys.length < 1 := (List.getElem?_eq_some_iff.mp hx).1
      rw [show k9 - tys.length = 0 by omega] at hx
      cases hx
      exact ⟨hAr, fA⟩⟩
  obtain ⟨t, a1, b1⟩ := kk H.size (fun i => H.size + 1 + i) cA F.heap (fun i j _ _ h => by have h9 : H.size + 1 + i = H.size + 1 + j := h; omega) hnl hK2 (by rw [← vr_rows hnm]; exact vr_lay hP2) (by rw [← vr_rows hnm]; exact vr_layD hD2) ⟨by rw [f1]; have := hS.1; omega, fun x h1 h2 => (hold x (Nat.lt_of_lt_of_le h1 hS.1)).trans (hS.2.1 x h1 h2), hS.2.2⟩ F rfl X'
  refine ⟨t, step t ?_, b1⟩
  have e : T.heap.size = H.size := by rw [hT]
  rw [e]
  exact a1
end VGM
/-! ===== END ===== -/

/-! ===== BEGIN printed: names, fields, word lists, decode rows ===== -/
theorem goodIn_r2 {big : List Cond} (cs : List (List Cond)) (hc : ∀ l ∈ cs, ∀ w ∈ l, w ∈ big) (ws : List Cond) (ps : List (Nat × Nat)) (hp : ws = ps.filterMap (fun i => (cs[i.1]?).bind (fun l => l[i.2]?))) (h : ws.all goodWord = true) : GoodIn big ws := by
  intro w hw
  have h1 := List.all_eq_true.mp h w hw
  rw [hp] at hw
  obtain ⟨i, -, hi⟩ := List.mem_filterMap.mp hw
  obtain ⟨l, hl, hi⟩ := Option.bind_eq_some_iff.mp hi
  exact ⟨hc l (List.mem_of_getElem? hl) w (List.mem_of_getElem? hi), good_of_word h1⟩
end
section
theorem qd_num (c : ByteArray) : True := True.intro
/-- a list of bytes as a number, the first byte lowest -/
noncomputable def numB : List UInt8 → Nat
  | [] => 0
  | b :: l => b.toNat + 256 * numB l
theorem numB_get : ∀ (l : List UInt8) (p : Nat) (h : p < l.length), numB l / 256 ^ p % 256 = (l[p]).toNat := by
  intro l
  induction l with
  | nil => intro p h; exact absurd h (Nat.not_lt_zero _)
  | cons b l ih =>
    intro p h
    have hb := b.toNat_lt
    cases p with
    | zero =>
      show (b.toNat + 256 * numB l) / 256 ^ 0 % 256 = b.toNat
      rw [Nat.pow_zero, Nat.div_one]; omega
    | succ p =>
      show (b.toNat + 256 * numB l) / 256 ^ (p + 1) % 256 = (l[p]'(Nat.lt_of_succ_lt_succ h)).toNat
      rw [Nat.pow_succ, Nat.mul_comm (256 ^ p) 256, ← Nat.div_div_eq_div_mul, show (b.toNat + 256 * numB l) / 256 = numB l by omega]
      exact ih p (Nat.lt_of_succ_lt_succ h)
/-- the code c as a number N, and its length n -/
noncomputable def CN (c : ByteArray) (N n : Nat) : Prop := numB c.data.toList = N ∧ c.data.toList.length = n
section QD
variable {c : ByteArray} {N n p : Nat}
theorem qd_size (h : CN c N n) : c.size = n := by
  rw [← h.2]; exact Array.length_toList.symm
theorem qd_rb {α β : Type} (r : ClassFile.Decoder α) (f : α → ClassFile.Decoder β) (q : Nat) : (r >>= f).runAt c q = (r.runAt c q >>= fun x => (f x.1).runAt c x.2) := rfl
theorem qd_u1 (h : CN c N n) (hp : p < n) : (ClassFile.Reader.u1 : ClassFile.Decoder Nat).runAt c p = .ok (N / 256 ^ p % 256, p + 1) := by
  have hs : p < c.size := by rw [qd_size h]; exact hp
  have e : c[p].toNat = N / 256 ^ p % 256 := by
    rw [← h.1, numB_get c.data.toList p (by rw [h.2]; exact hp)]; rfl
  rw [← e]
  show (if h : p < c.size then (do set (p + 1); pure c[p].toNat : ClassFile.Decoder Nat) else throw (ClassFile.HasTruncated.truncated p)) c p = _
  rw [dif_pos hs]; rfl
theorem qd_u2 (h : CN c N n) (hp : p + 1 < n) : (ClassFile.Reader.u2 : ClassFile.Decoder Nat).runAt c p = .ok (N / 256 ^ p % 256 * 256 + N / 256 ^ (p + 1) % 256, p + 2) := by
  show ((ClassFile.Reader.u1 >>= fun hi => ClassFile.Reader.u1 >>= fun lo => pure (hi * 256 + lo)) : ClassFile.Decoder Nat).runAt c p = _
  rw [qd_rb, qd_u1 h (by omega)]
  show ((ClassFile.Reader.u1 >>= fun lo => pure (N / 256 ^ p % 256 * 256 + lo)) : ClassFile.Decoder Nat).runAt c (p + 1) = _
  rw [qd_rb, qd_u1 h hp]; rfl
theorem qd_s1 (h : CN c N n) (hp : p < n) : (ClassFile.Reader.s1 : ClassFile.Decoder Int).runAt c p = .ok (ClassFile.Reader.signed 8 (N / 256 ^ p % 256), p + 1) := by
  show ((ClassFile.Reader.u1 : ClassFile.Decoder Nat).runAt c p >>= fun x => Except.ok (ClassFile.Reader.signed 8 x.1, x.2)) = _
  rw [qd_u1 h hp]; rfl
theorem qd_s2 (h : CN c N n) (hp : p + 1 < n) : (ClassFile.Reader.s2 : ClassFile.Decoder Int).runAt c p = .ok (ClassFile.Reader.signed 16 (N / 256 ^ p % 256 * 256 + N / 256 ^ (p + 1) % 256), p + 2) := by
  show ((ClassFile.Reader.u2 : ClassFile.Decoder Nat).runAt c p >>= fun x => Except.ok (ClassFile.Reader.signed 16 x.1, x.2)) = _
  rw [qd_u2 h hp]; rfl
theorem qd_n1 : N / 256 ^ (p + 1) = N / 256 ^ p / 256 := by rw [Nat.pow_succ, Nat.div_div_eq_div_mul]
theorem qd_sh (N p : Nat) : Nat.shiftRight N (Nat.mul 8 p) = N / 256 ^ p := by
  show N >>> (8 * p) = _
  rw [Nat.shiftRight_eq_div_pow, Nat.pow_mul]
theorem qd_e1 {o : Nat} (e : Nat.beq (Nat.mod (Nat.shiftRight N (Nat.mul 8 p)) 256) o = true) : N / 256 ^ p % 256 = o := by
  rw [qd_sh] at e; exact Nat.eq_of_beq_eq_true e
theorem qd_e2 {o x : Nat} (ho : o < 256) (e : Nat.beq (Nat.mod (Nat.shiftRight N (Nat.mul 8 p)) 65536) (Nat.add o (Nat.mul 256 x)) = true) : N / 256 ^ p % 256 = o ∧ N / 256 ^ (p + 1) % 256 = x := by
  rw [qd_sh] at e
  have w : N / 256 ^ p % 65536 = o + 256 * x := Nat.eq_of_beq_eq_true e
  rw [qd_n1]
  generalize N / 256 ^ p = M at w ⊢
  omega
theorem qd_e3 {o x : Nat} (ho : o < 256) (hx : Nat.ble x 65535 = true) (e : Nat.beq (Nat.mod (Nat.shiftRight N (Nat.mul 8 p)) 16777216) (Nat.add o (Nat.mul 256 (Nat.add (Nat.div x 256) (Nat.mul 256 (Nat.mod x 256))))) = true) : N / 256 ^ p % 256 = o ∧ N / 256 ^ (p + 1) % 256 * 256 + N / 256 ^ (p + 1 + 1) % 256 = x := by
  rw [qd_sh] at e
  have w : N / 256 ^ p % 16777216 = o + 256 * (x / 256 + 256 * (x % 256)) := Nat.eq_of_beq_eq_true e
  have hx : x ≤ 65535 := Nat.le_of_ble_eq_true hx
  rw [qd_n1 (p := p + 1), qd_n1]
  generalize N / 256 ^ p = M at w ⊢
  have h1 : x / 256 ≤ 255 := by omega
  have h2 : x % 256 ≤ 255 := by omega
  have h3 : x = x / 256 * 256 + x % 256 := by omega
  generalize x / 256 = i at w h1 h3
  generalize x % 256 = j at w h2 h3
  have a : M % 256 = o := by omega
  have b : M / 256 % 65536 = i + 256 * j := by omega
  have d : M / 256 % 256 = i := by omega
  have f : M / 256 / 256 % 256 = j := by omega
  rw [d, f]
  exact ⟨a, h3.symm⟩
theorem di_1 (h : CN c N n) (hp : Nat.ble (Nat.add p 1) n = true) (e : Nat.beq (Nat.mod (Nat.shiftRight N (Nat.mul 8 p)) 256) 1 = true) : decode c p = .ok (.aconst_null, 1) := by
  have hp := Nat.le_of_ble_eq_true hp
  have hp : p + 1 ≤ n := hp
  have u := qd_u1 h (p := p) (by omega)
  rw [qd_e1 e] at u
  unfold decode ClassFile.Decoder.instr
  rw [qd_rb, u]
  show Except.ok ((.aconst_null : Instr), p + 1 - p) = _
  rw [Nat.add_sub_cancel_left]

theorem di_2 (h : CN c N n) (hp : Nat.ble (Nat.add p 1) n = true) (e : Nat.beq (Nat.mod (Nat.shiftRight N (Nat.mul 8 p)) 256) 2 = true) : decode c p = .ok (.iconst (-1), 1) := by
  have hp := Nat.le_of_ble_eq_true hp
  have hp : p + 1 ≤ n := hp
  have u := qd_u1 h (p := p) (by omega)
  rw [qd_e1 e] at u
  unfold decode ClassFile.Decoder.instr
  rw [qd_rb, u]
  show Except.ok ((.iconst (-1) : Instr), p + 1 - p) = _
  rw [Nat.add_sub_cancel_left]

theorem di_3 (h : CN c N n) (hp : Nat.ble (Nat.add p 1) n = true) (e : Nat.beq (Nat.mod (Nat.shiftRight N (Nat.mul 8 p)) 256) 3 = true) : decode c p = .ok (.iconst 0, 1) := by
  have hp := Nat.le_of_ble_eq_true hp
  have hp : p + 1 ≤ n := hp
  have u := qd_u1 h (p := p) (by omega)
  rw [qd_e1 e] at u
  unfold decode ClassFile.Decoder.instr
  rw [qd_rb, u]
  show Except.ok ((.iconst 0 : Instr), p + 1 - p) = _
  rw [Nat.add_sub_cancel_left]

theorem di_4 (h : CN c N n) (hp : Nat.ble (Nat.add p 1) n = true) (e : Nat.beq (Nat.mod (Nat.shiftRight N (Nat.mul 8 p)) 256) 4 = true) : decode c p = .ok (.iconst 1, 1) := by
  have hp := Nat.le_of_ble_eq_true hp
  have hp : p + 1 ≤ n := hp
  have u := qd_u1 h (p := p) (by omega)
  rw [qd_e1 e] at u
  unfold decode ClassFile.Decoder.instr
  rw [qd_rb, u]
  show Except.ok ((.iconst 1 : Instr), p + 1 - p) = _
  rw [Nat.add_sub_cancel_left]

theorem di_5 (h : CN c N n) (hp : Nat.ble (Nat.add p 1) n = true) (e : Nat.beq (Nat.mod (Nat.shiftRight N (Nat.mul 8 p)) 256) 5 = true) : decode c p = .ok (.iconst 2, 1) := by
  have hp := Nat.le_of_ble_eq_true hp
  have hp : p + 1 ≤ n := hp
  have u := qd_u1 h (p := p) (by omega)
  rw [qd_e1 e] at u
  unfold decode ClassFile.Decoder.instr
  rw [qd_rb, u]
  show Except.ok ((.iconst 2 : Instr), p + 1 - p) = _
  rw [Nat.add_sub_cancel_left]

theorem di_6 (h : CN c N n) (hp : Nat.ble (Nat.add p 1) n = true) (e : Nat.beq (Nat.mod (Nat.shiftRight N (Nat.mul 8 p)) 256) 6 = true) : decode c p = .ok (.iconst 3, 1) := by
  have hp := Nat.le_of_ble_eq_true hp
  have hp : p + 1 ≤ n := hp
  have u := qd_u1 h (p := p) (by omega)
  rw [qd_e1 e] at u
  unfold decode ClassFile.Decoder.instr
  rw [qd_rb, u]
  show Except.ok ((.iconst 3 : Instr), p + 1 - p) = _
  rw [Nat.add_sub_cancel_left]

theorem di_7 (h : CN c N n) (hp : Nat.ble (Nat.add p 1) n = true) (e : Nat.beq (Nat.mod (Nat.shiftRight N (Nat.mul 8 p)) 256) 7 = true) : decode c p = .ok (.iconst 4, 1) := by
  have hp := Nat.le_of_ble_eq_true hp
  have hp : p + 1 ≤ n := hp
  have u := qd_u1 h (p := p) (by omega)
  rw [qd_e1 e] at u
  unfold decode ClassFile.Decoder.instr
  rw [qd_rb, u]
  show Except.ok ((.iconst 4 : Instr), p + 1 - p) = _
  rw [Nat.add_sub_cancel_left]

theorem di_8 (h : CN c N n) (hp : Nat.ble (Nat.add p 1) n = true) (e : Nat.beq (Nat.mod (Nat.shiftRight N (Nat.mul 8 p)) 256) 8 = true) : decode c p = .ok (.iconst 5, 1) := by
  have hp := Nat.le_of_ble_eq_true hp
  have hp : p + 1 ≤ n := hp
  have u := qd_u1 h (p := p) (by omega)
  rw [qd_e1 e] at u
  unfold decode ClassFile.Decoder.instr
  rw [qd_rb, u]
  show Except.ok ((.iconst 5 : Instr), p + 1 - p) = _
  rw [Nat.add_sub_cancel_left]

theorem di_9 (h : CN c N n) (hp : Nat.ble (Nat.add p 1) n = true) (e : Nat.beq (Nat.mod (Nat.shiftRight N (Nat.mul 8 p)) 256) 9 = true) : decode c p = .ok (.lconst 0, 1) := by
  have hp := Nat.le_of_ble_eq_true hp
  have hp : p + 1 ≤ n := hp
  have u := qd_u1 h (p := p) (by omega)
  rw [qd_e1 e] at u
  unfold decode ClassFile.Decoder.instr
  rw [qd_rb, u]
  show Except.ok ((.lconst 0 : Instr), p + 1 - p) = _
  rw [Nat.add_sub_cancel_left]

theorem di_10 (h : CN c N n) (hp : Nat.ble (Nat.add p 1) n = true) (e : Nat.beq (Nat.mod (Nat.shiftRight N (Nat.mul 8 p)) 256) 10 = true) : decode c p = .ok (.lconst 1, 1) := by
  have hp := Nat.le_of_ble_eq_true hp
  have hp : p + 1 ≤ n := hp
  have u := qd_u1 h (p := p) (by omega)
  rw [qd_e1 e] at u
  unfold decode ClassFile.Decoder.instr
  rw [qd_rb, u]
  show Except.ok ((.lconst 1 : Instr), p + 1 - p) = _
  rw [Nat.add_sub_cancel_left]

theorem di_16 {x : Nat} {z : Int} (h : CN c N n) (hp : Nat.ble (Nat.add p 2) n = true) (e : Nat.beq (Nat.mod (Nat.shiftRight N (Nat.mul 8 p)) 65536) (Nat.add 16 (Nat.mul 256 x)) = true) (hz : ClassFile.Reader.signed 8 x = z) : decode c p = .ok (.bipush z, 2) := by
  have hp := Nat.le_of_ble_eq_true hp
  have hp : p + 2 ≤ n := hp
  have w := qd_e2 (by decide) e
  have u := qd_u1 h (p := p) (by omega)
  rw [w.1] at u
  have v := qd_s1 h (p := p + 1) (by omega)
  rw [w.2, hz] at v
  unfold decode ClassFile.Decoder.instr
  rw [qd_rb, u]
  show (((ClassFile.Reader.s1 >>= fun a => pure (.bipush a)) : ClassFile.Decoder Instr).runAt c (p + 1) >>= _) = _
  rw [qd_rb, v]
  show Except.ok ((.bipush z : Instr), p + 2 - p) = _
  rw [Nat.add_sub_cancel_left]

theorem di_17 {x : Nat} {z : Int} (h : CN c N n) (hp : Nat.ble (Nat.add p 3) n = true) (hx : Nat.ble x 65535 = true) (e : Nat.beq (Nat.mod (Nat.shiftRight N (Nat.mul 8 p)) 16777216) (Nat.add 17 (Nat.mul 256 (Nat.add (Nat.div x 256) (Nat.mul 256 (Nat.mod x 256))))) = true) (hz : ClassFile.Reader.signed 16 x = z) : decode c p = .ok (.sipush z, 3) := by
  have hp := Nat.le_of_ble_eq_true hp
  have hp : p + 3 ≤ n := hp
  have w := qd_e3 (by decide) hx e
  have u := qd_u1 h (p := p) (by omega)
  rw [w.1] at u
  have v := qd_s2 h (p := p + 1) (by omega)
  rw [w.2, hz] at v
  unfold decode ClassFile.Decoder.instr
  rw [qd_rb, u]
  show (((ClassFile.Reader.s2 >>= fun a => pure (.sipush a)) : ClassFile.Decoder Instr).runAt c (p + 1) >>= _) = _
  rw [qd_rb, v]
  show Except.ok ((.sipush z : Instr), p + 3 - p) = _
  rw [Nat.add_sub_cancel_left]

theorem di_18 {x : Nat} (h : CN c N n) (hp : Nat.ble (Nat.add p 2) n = true) (e : Nat.beq (Nat.mod (Nat.shiftRight N (Nat.mul 8 p)) 65536) (Nat.add 18 (Nat.mul 256 x)) = true) : decode c p = .ok (.ldc x, 2) := by
  have hp := Nat.le_of_ble_eq_true hp
  have hp : p + 2 ≤ n := hp
  have w := qd_e2 (by decide) e
  have u := qd_u1 h (p := p) (by omega)
  rw [w.1] at u
  have v := qd_u1 h (p := p + 1) (by omega)
  rw [w.2] at v
  unfold decode ClassFile.Decoder.instr
  rw [qd_rb, u]
  show (((ClassFile.Reader.u1 >>= fun a => pure (.ldc a)) : ClassFile.Decoder Instr).runAt c (p + 1) >>= _) = _
  rw [qd_rb, v]
  show Except.ok ((.ldc x : Instr), p + 2 - p) = _
  rw [Nat.add_sub_cancel_left]

theorem di_19 {x : Nat} (h : CN c N n) (hp : Nat.ble (Nat.add p 3) n = true) (hx : Nat.ble x 65535 = true) (e : Nat.beq (Nat.mod (Nat.shiftRight N (Nat.mul 8 p)) 16777216) (Nat.add 19 (Nat.mul 256 (Nat.add (Nat.div x 256) (Nat.mul 256 (Nat.mod x 256))))) = true) : decode c p = .ok (.ldc_w x, 3) := by
  have hp := Nat.le_of_ble_eq_true hp
  have hp : p + 3 ≤ n := hp
  have w := qd_e3 (by decide) hx e
  have u := qd_u1 h (p := p) (by omega)
  rw [w.1] at u
  have v := qd_u2 h (p := p + 1) (by omega)
  rw [w.2] at v
  unfold decode ClassFile.Decoder.instr
  rw [qd_rb, u]
  show (((ClassFile.Reader.u2 >>= fun a => pure (.ldc_w a)) : ClassFile.Decoder Instr).runAt c (p + 1) >>= _) = _
  rw [qd_rb, v]
  show Except.ok ((.ldc_w x : Instr), p + 3 - p) = _
  rw [Nat.add_sub_cancel_left]

theorem di_20 {x : Nat} (h : CN c N n) (hp : Nat.ble (Nat.add p 3) n = true) (hx : Nat.ble x 65535 = true) (e : Nat.beq (Nat.mod (Nat.shiftRight N (Nat.mul 8 p)) 16777216) (Nat.add 20 (Nat.mul 256 (Nat.add (Nat.div x 256) (Nat.mul 256 (Nat.mod x 256))))) = true) : decode c p = .ok (.ldc2_w x, 3) := by
  have hp := Nat.le_of_ble_eq_true hp
  have hp : p + 3 ≤ n := hp
  have w := qd_e3 (by decide) hx e
  have u := qd_u1 h (p := p) (by omega)
  rw [w.1] at u
  have v := qd_u2 h (p := p + 1) (by omega)
  rw [w.2] at v
  unfold decode ClassFile.Decoder.instr
  rw [qd_rb, u]
  show (((ClassFile.Reader.u2 >>= fun a => pure (.ldc2_w a)) : ClassFile.Decoder Instr).runAt c (p + 1) >>= _) = _
  rw [qd_rb, v]
  show Except.ok ((.ldc2_w x : Instr), p + 3 - p) = _
  rw [Nat.add_sub_cancel_left]

theorem di_21 {x : Nat} (h : CN c N n) (hp : Nat.ble (Nat.add p 2) n = true) (e : Nat.beq (Nat.mod (Nat.shiftRight N (Nat.mul 8 p)) 65536) (Nat.add 21 (Nat.mul 256 x)) = true) : decode c p = .ok (.iload x, 2) := by
  have hp := Nat.le_of_ble_eq_true hp
  have hp : p + 2 ≤ n := hp
  have w := qd_e2 (by decide) e
  have u := qd_u1 h (p := p) (by omega)
  rw [w.1] at u
  have v := qd_u1 h (p := p + 1) (by omega)
  rw [w.2] at v
  unfold decode ClassFile.Decoder.instr
  rw [qd_rb, u]
  show (((ClassFile.Reader.u1 >>= fun a => pure (.iload a)) : ClassFile.Decoder Instr).runAt c (p + 1) >>= _) = _
  rw [qd_rb, v]
  show Except.ok ((.iload x : Instr), p + 2 - p) = _
  rw [Nat.add_sub_cancel_left]

theorem di_22 {x : Nat} (h : CN c N n) (hp : Nat.ble (Nat.add p 2) n = true) (e : Nat.beq (Nat.mod (Nat.shiftRight N (Nat.mul 8 p)) 65536) (Nat.add 22 (Nat.mul 256 x)) = true) : decode c p = .ok (.lload x, 2) := by
  have hp := Nat.le_of_ble_eq_true hp
  have hp : p + 2 ≤ n := hp
  have w := qd_e2 (by decide) e
  have u := qd_u1 h (p := p) (by omega)
  rw [w.1] at u
  have v := qd_u1 h (p := p + 1) (by omega)
  rw [w.2] at v
  unfold decode ClassFile.Decoder.instr
  rw [qd_rb, u]
  show (((ClassFile.Reader.u1 >>= fun a => pure (.lload a)) : ClassFile.Decoder Instr).runAt c (p + 1) >>= _) = _
  rw [qd_rb, v]
  show Except.ok ((.lload x : Instr), p + 2 - p) = _
  rw [Nat.add_sub_cancel_left]

theorem di_25 {x : Nat} (h : CN c N n) (hp : Nat.ble (Nat.add p 2) n = true) (e : Nat.beq (Nat.mod (Nat.shiftRight N (Nat.mul 8 p)) 65536) (Nat.add 25 (Nat.mul 256 x)) = true) : decode c p = .ok (.aload x, 2) := by
  have hp := Nat.le_of_ble_eq_true hp
  have hp : p + 2 ≤ n := hp
  have w := qd_e2 (by decide) e
  have u := qd_u1 h (p := p) (by omega)
  rw [w.1] at u
  have v := qd_u1 h (p := p + 1) (by omega)
  rw [w.2] at v
  unfold decode ClassFile.Decoder.instr
  rw [qd_rb, u]
  show (((ClassFile.Reader.u1 >>= fun a => pure (.aload a)) : ClassFile.Decoder Instr).runAt c (p + 1) >>= _) = _
  rw [qd_rb, v]
  show Except.ok ((.aload x : Instr), p + 2 - p) = _
  rw [Nat.add_sub_cancel_left]

theorem di_26 (h : CN c N n) (hp : Nat.ble (Nat.add p 1) n = true) (e : Nat.beq (Nat.mod (Nat.shiftRight N (Nat.mul 8 p)) 256) 26 = true) : decode c p = .ok (.iload_n 0, 1) := by
  have hp := Nat.le_of_ble_eq_true hp
  have hp : p + 1 ≤ n := hp
  have u := qd_u1 h (p := p) (by omega)
  rw [qd_e1 e] at u
  unfold decode ClassFile.Decoder.instr
  rw [qd_rb, u]
  show Except.ok ((.iload_n 0 : Instr), p + 1 - p) = _
  rw [Nat.add_sub_cancel_left]

theorem di_27 (h : CN c N n) (hp : Nat.ble (Nat.add p 1) n = true) (e : Nat.beq (Nat.mod (Nat.shiftRight N (Nat.mul 8 p)) 256) 27 = true) : decode c p = .ok (.iload_n 1, 1) := by
  have hp := Nat.le_of_ble_eq_true hp
  have hp : p + 1 ≤ n := hp
  have u := qd_u1 h (p := p) (by omega)
  rw [qd_e1 e] at u
  unfold decode ClassFile.Decoder.instr
  rw [qd_rb, u]
  show Except.ok ((.iload_n 1 : Instr), p + 1 - p) = _
  rw [Nat.add_sub_cancel_left]

theorem di_28 (h : CN c N n) (hp : Nat.ble (Nat.add p 1) n = true) (e : Nat.beq (Nat.mod (Nat.shiftRight N (Nat.mul 8 p)) 256) 28 = true) : decode c p = .ok (.iload_n 2, 1) := by
  have hp := Nat.le_of_ble_eq_true hp
  have hp : p + 1 ≤ n := hp
  have u := qd_u1 h (p := p) (by omega)
  rw [qd_e1 e] at u
  unfold decode ClassFile.Decoder.instr
  rw [qd_rb, u]
  show Except.ok ((.iload_n 2 : Instr), p + 1 - p) = _
  rw [Nat.add_sub_cancel_left]

theorem di_29 (h : CN c N n) (hp : Nat.ble (Nat.add p 1) n = true) (e : Nat.beq (Nat.mod (Nat.shiftRight N (Nat.mul 8 p)) 256) 29 = true) : decode c p = .ok (.iload_n 3, 1) := by
  have hp := Nat.le_of_ble_eq_true hp
  have hp : p + 1 ≤ n := hp
  have u := qd_u1 h (p := p) (by omega)
  rw [qd_e1 e] at u
  unfold decode ClassFile.Decoder.instr
  rw [qd_rb, u]
  show Except.ok ((.iload_n 3 : Instr), p + 1 - p) = _
  rw [Nat.add_sub_cancel_left]

theorem di_31 (h : CN c N n) (hp : Nat.ble (Nat.add p 1) n = true) (e : Nat.beq (Nat.mod (Nat.shiftRight N (Nat.mul 8 p)) 256) 31 = true) : decode c p = .ok (.lload_n 1, 1) := by
  have hp := Nat.le_of_ble_eq_true hp
  have hp : p + 1 ≤ n := hp
  have u := qd_u1 h (p := p) (by omega)
  rw [qd_e1 e] at u
  unfold decode ClassFile.Decoder.instr
  rw [qd_rb, u]
  show Except.ok ((.lload_n 1 : Instr), p + 1 - p) = _
  rw [Nat.add_sub_cancel_left]

theorem di_33 (h : CN c N n) (hp : Nat.ble (Nat.add p 1) n = true) (e : Nat.beq (Nat.mod (Nat.shiftRight N (Nat.mul 8 p)) 256) 33 = true) : decode c p = .ok (.lload_n 3, 1) := by
  have hp := Nat.le_of_ble_eq_true hp
  have hp : p + 1 ≤ n := hp
  have u := qd_u1 h (p := p) (by omega)
  rw [qd_e1 e] at u
  unfold decode ClassFile.Decoder.instr
  rw [qd_rb, u]
  show Except.ok ((.lload_n 3 : Instr), p + 1 - p) = _
  rw [Nat.add_sub_cancel_left]

theorem di_42 (h : CN c N n) (hp : Nat.ble (Nat.add p 1) n = true) (e : Nat.beq (Nat.mod (Nat.shiftRight N (Nat.mul 8 p)) 256) 42 = true) : decode c p = .ok (.aload_n 0, 1) := by
  have hp := Nat.le_of_ble_eq_true hp
  have hp : p + 1 ≤ n := hp
  have u := qd_u1 h (p := p) (by omega)
  rw [qd_e1 e] at u
  unfold decode ClassFile.Decoder.instr
  rw [qd_rb, u]
  show Except.ok ((.aload_n 0 : Instr), p + 1 - p) = _
  rw [Nat.add_sub_cancel_left]

theorem di_43 (h : CN c N n) (hp : Nat.ble (Nat.add p 1) n = true) (e : Nat.beq (Nat.mod (Nat.shiftRight N (Nat.mul 8 p)) 256) 43 = true) : decode c p = .ok (.aload_n 1, 1) := by
  have hp := Nat.le_of_ble_eq_true hp
  have hp : p + 1 ≤ n := hp
  have u := qd_u1 h (p := p) (by omega)
  rw [qd_e1 e] at u
  unfold decode ClassFile.Decoder.instr
  rw [qd_rb, u]
  show Except.ok ((.aload_n 1 : Instr), p + 1 - p) = _
  rw [Nat.add_sub_cancel_left]

theorem di_44 (h : CN c N n) (hp : Nat.ble (Nat.add p 1) n = true) (e : Nat.beq (Nat.mod (Nat.shiftRight N (Nat.mul 8 p)) 256) 44 = true) : decode c p = .ok (.aload_n 2, 1) := by
  have hp := Nat.le_of_ble_eq_true hp
  have hp : p + 1 ≤ n := hp
  have u := qd_u1 h (p := p) (by omega)
  rw [qd_e1 e] at u
  unfold decode ClassFile.Decoder.instr
  rw [qd_rb, u]
  show Except.ok ((.aload_n 2 : Instr), p + 1 - p) = _
  rw [Nat.add_sub_cancel_left]

theorem di_45 (h : CN c N n) (hp : Nat.ble (Nat.add p 1) n = true) (e : Nat.beq (Nat.mod (Nat.shiftRight N (Nat.mul 8 p)) 256) 45 = true) : decode c p = .ok (.aload_n 3, 1) := by
  have hp := Nat.le_of_ble_eq_true hp
  have hp : p + 1 ≤ n := hp
  have u := qd_u1 h (p := p) (by omega)
  rw [qd_e1 e] at u
  unfold decode ClassFile.Decoder.instr
  rw [qd_rb, u]
  show Except.ok ((.aload_n 3 : Instr), p + 1 - p) = _
  rw [Nat.add_sub_cancel_left]

theorem di_46 (h : CN c N n) (hp : Nat.ble (Nat.add p 1) n = true) (e : Nat.beq (Nat.mod (Nat.shiftRight N (Nat.mul 8 p)) 256) 46 = true) : decode c p = .ok (.iaload, 1) := by
  have hp := Nat.le_of_ble_eq_true hp
  have hp : p + 1 ≤ n := hp
  have u := qd_u1 h (p := p) (by omega)
  rw [qd_e1 e] at u
  unfold decode ClassFile.Decoder.instr
  rw [qd_rb, u]
  show Except.ok ((.iaload : Instr), p + 1 - p) = _
  rw [Nat.add_sub_cancel_left]

theorem di_47 (h : CN c N n) (hp : Nat.ble (Nat.add p 1) n = true) (e : Nat.beq (Nat.mod (Nat.shiftRight N (Nat.mul 8 p)) 256) 47 = true) : decode c p = .ok (.laload, 1) := by
  have hp := Nat.le_of_ble_eq_true hp
  have hp : p + 1 ≤ n := hp
  have u := qd_u1 h (p := p) (by omega)
  rw [qd_e1 e] at u
  unfold decode ClassFile.Decoder.instr
  rw [qd_rb, u]
  show Except.ok ((.laload : Instr), p + 1 - p) = _
  rw [Nat.add_sub_cancel_left]

theorem di_50 (h : CN c N n) (hp : Nat.ble (Nat.add p 1) n = true) (e : Nat.beq (Nat.mod (Nat.shiftRight N (Nat.mul 8 p)) 256) 50 = true) : decode c p = .ok (.aaload, 1) := by
  have hp := Nat.le_of_ble_eq_true hp
  have hp : p + 1 ≤ n := hp
  have u := qd_u1 h (p := p) (by omega)
  rw [qd_e1 e] at u
  unfold decode ClassFile.Decoder.instr
  rw [qd_rb, u]
  show Except.ok ((.aaload : Instr), p + 1 - p) = _
  rw [Nat.add_sub_cancel_left]

theorem di_51 (h : CN c N n) (hp : Nat.ble (Nat.add p 1) n = true) (e : Nat.beq (Nat.mod (Nat.shiftRight N (Nat.mul 8 p)) 256) 51 = true) : decode c p = .ok (.baload, 1) := by
  have hp := Nat.le_of_ble_eq_true hp
  have hp : p + 1 ≤ n := hp
  have u := qd_u1 h (p := p) (by omega)
  rw [qd_e1 e] at u
  unfold decode ClassFile.Decoder.instr
  rw [qd_rb, u]
  show Except.ok ((.baload : Instr), p + 1 - p) = _
  rw [Nat.add_sub_cancel_left]

theorem di_53 (h : CN c N n) (hp : Nat.ble (Nat.add p 1) n = true) (e : Nat.beq (Nat.mod (Nat.shiftRight N (Nat.mul 8 p)) 256) 53 = true) : decode c p = .ok (.saload, 1) := by
  have hp := Nat.le_of_ble_eq_true hp
  have hp : p + 1 ≤ n := hp
  have u := qd_u1 h (p := p) (by omega)
  rw [qd_e1 e] at u
  unfold decode ClassFile.Decoder.instr
  rw [qd_rb, u]
  show Except.ok ((.saload : Instr), p + 1 - p) = _
  rw [Nat.add_sub_cancel_left]

theorem di_54 {x : Nat} (h : CN c N n) (hp : Nat.ble (Nat.add p 2) n = true) (e : Nat.beq (Nat.mod (Nat.shiftRight N (Nat.mul 8 p)) 65536) (Nat.add 54 (Nat.mul 256 x)) = true) : decode c p = .ok (.istore x, 2) := by
  have hp := Nat.le_of_ble_eq_true hp
  have hp : p + 2 ≤ n := hp
  have w := qd_e2 (by decide) e
  have u := qd_u1 h (p := p) (by omega)
  rw [w.1] at u
  have v := qd_u1 h (p := p + 1) (by omega)
  rw [w.2] at v
  unfold decode ClassFile.Decoder.instr
  rw [qd_rb, u]
  show (((ClassFile.Reader.u1 >>= fun a => pure (.istore a)) : ClassFile.Decoder Instr).runAt c (p + 1) >>= _) = _
  rw [qd_rb, v]
  show Except.ok ((.istore x : Instr), p + 2 - p) = _
  rw [Nat.add_sub_cancel_left]

theorem di_55 {x : Nat} (h : CN c N n) (hp : Nat.ble (Nat.add p 2) n = true) (e : Nat.beq (Nat.mod (Nat.shiftRight N (Nat.mul 8 p)) 65536) (Nat.add 55 (Nat.mul 256 x)) = true) : decode c p = .ok (.lstore x, 2) := by
  have hp := Nat.le_of_ble_eq_true hp
  have hp : p + 2 ≤ n := hp
  have w := qd_e2 (by decide) e
  have u := qd_u1 h (p := p) (by omega)
  rw [w.1] at u
  have v := qd_u1 h (p := p + 1) (by omega)
  rw [w.2] at v
  unfold decode ClassFile.Decoder.instr
  rw [qd_rb, u]
  show (((ClassFile.Reader.u1 >>= fun a => pure (.lstore a)) : ClassFile.Decoder Instr).runAt c (p + 1) >>= _) = _
  rw [qd_rb, v]
  show Except.ok ((.lstore x : Instr), p + 2 - p) = _
  rw [Nat.add_sub_cancel_left]

theorem di_58 {x : Nat} (h : CN c N n) (hp : Nat.ble (Nat.add p 2) n = true) (e : Nat.beq (Nat.mod (Nat.shiftRight N (Nat.mul 8 p)) 65536) (Nat.add 58 (Nat.mul 256 x)) = true) : decode c p = .ok (.astore x, 2) := by
  have hp := Nat.le_of_ble_eq_true hp
  have hp : p + 2 ≤ n := hp
  have w := qd_e2 (by decide) e
  have u := qd_u1 h (p := p) (by omega)
  rw [w.1] at u
  have v := qd_u1 h (p := p + 1) (by omega)
  rw [w.2] at v
  unfold decode ClassFile.Decoder.instr
  rw [qd_rb, u]
  show (((ClassFile.Reader.u1 >>= fun a => pure (.astore a)) : ClassFile.Decoder Instr).runAt c (p + 1) >>= _) = _
  rw [qd_rb, v]
  show Except.ok ((.astore x : Instr), p + 2 - p) = _
  rw [Nat.add_sub_cancel_left]

theorem di_59 (h : CN c N n) (hp : Nat.ble (Nat.add p 1) n = true) (e : Nat.beq (Nat.mod (Nat.shiftRight N (Nat.mul 8 p)) 256) 59 = true) : decode c p = .ok (.istore_n 0, 1) := by
  have hp := Nat.le_of_ble_eq_true hp
  have hp : p + 1 ≤ n := hp
  have u := qd_u1 h (p := p) (by omega)
  rw [qd_e1 e] at u
  unfold decode ClassFile.Decoder.instr
  rw [qd_rb, u]
  show Except.ok ((.istore_n 0 : Instr), p + 1 - p) = _
  rw [Nat.add_sub_cancel_left]

theorem di_60 (h : CN c N n) (hp : Nat.ble (Nat.add p 1) n = true) (e : Nat.beq (Nat.mod (Nat.shiftRight N (Nat.mul 8 p)) 256) 60 = true) : decode c p = .ok (.istore_n 1, 1) := by
  have hp := Nat.le_of_ble_eq_true hp
  have hp : p + 1 ≤ n := hp
  have u := qd_u1 h (p := p) (by omega)
  rw [qd_e1 e] at u
  unfold decode ClassFile.Decoder.instr
  rw [qd_rb, u]
  show Except.ok ((.istore_n 1 : Instr), p + 1 - p) = _
  rw [Nat.add_sub_cancel_left]

theorem di_61 (h : CN c N n) (hp : Nat.ble (Nat.add p 1) n = true) (e : Nat.beq (Nat.mod (Nat.shiftRight N (Nat.mul 8 p)) 256) 61 = true) : decode c p = .ok (.istore_n 2, 1) := by
  have hp := Nat.le_of_ble_eq_true hp
  have hp : p + 1 ≤ n := hp
  have u := qd_u1 h (p := p) (by omega)
  rw [qd_e1 e] at u
  unfold decode ClassFile.Decoder.instr
  rw [qd_rb, u]
  show Except.ok ((.istore_n 2 : Instr), p + 1 - p) = _
  rw [Nat.add_sub_cancel_left]

theorem di_62 (h : CN c N n) (hp : Nat.ble (Nat.add p 1) n = true) (e : Nat.beq (Nat.mod (Nat.shiftRight N (Nat.mul 8 p)) 256) 62 = true) : decode c p = .ok (.istore_n 3, 1) := by
  have hp := Nat.le_of_ble_eq_true hp
  have hp : p + 1 ≤ n := hp
  have u := qd_u1 h (p := p) (by omega)
  rw [qd_e1 e] at u
  unfold decode ClassFile.Decoder.instr
  rw [qd_rb, u]
  show Except.ok ((.istore_n 3 : Instr), p + 1 - p) = _
  rw [Nat.add_sub_cancel_left]

theorem di_76 (h : CN c N n) (hp : Nat.ble (Nat.add p 1) n = true) (e : Nat.beq (Nat.mod (Nat.shiftRight N (Nat.mul 8 p)) 256) 76 = true) : decode c p = .ok (.astore_n 1, 1) := by
  have hp := Nat.le_of_ble_eq_true hp
  have hp : p + 1 ≤ n := hp
  have u := qd_u1 h (p := p) (by omega)
  rw [qd_e1 e] at u
  unfold decode ClassFile.Decoder.instr
  rw [qd_rb, u]
  show Except.ok ((.astore_n 1 : Instr), p + 1 - p) = _
  rw [Nat.add_sub_cancel_left]

theorem di_77 (h : CN c N n) (hp : Nat.ble (Nat.add p 1) n = true) (e : Nat.beq (Nat.mod (Nat.shiftRight N (Nat.mul 8 p)) 256) 77 = true) : decode c p = .ok (.astore_n 2, 1) := by
  have hp := Nat.le_of_ble_eq_true hp
  have hp : p + 1 ≤ n := hp
  have u := qd_u1 h (p := p) (by omega)
  rw [qd_e1 e] at u
  unfold decode ClassFile.Decoder.instr
  rw [qd_rb, u]
  show Except.ok ((.astore_n 2 : Instr), p + 1 - p) = _
  rw [Nat.add_sub_cancel_left]

theorem di_78 (h : CN c N n) (hp : Nat.ble (Nat.add p 1) n = true) (e : Nat.beq (Nat.mod (Nat.shiftRight N (Nat.mul 8 p)) 256) 78 = true) : decode c p = .ok (.astore_n 3, 1) := by
  have hp := Nat.le_of_ble_eq_true hp
  have hp : p + 1 ≤ n := hp
  have u := qd_u1 h (p := p) (by omega)
  rw [qd_e1 e] at u
  unfold decode ClassFile.Decoder.instr
  rw [qd_rb, u]
  show Except.ok ((.astore_n 3 : Instr), p + 1 - p) = _
  rw [Nat.add_sub_cancel_left]

theorem di_79 (h : CN c N n) (hp : Nat.ble (Nat.add p 1) n = true) (e : Nat.beq (Nat.mod (Nat.shiftRight N (Nat.mul 8 p)) 256) 79 = true) : decode c p = .ok (.iastore, 1) := by
  have hp := Nat.le_of_ble_eq_true hp
  have hp : p + 1 ≤ n := hp
  have u := qd_u1 h (p := p) (by omega)
  rw [qd_e1 e] at u
  unfold decode ClassFile.Decoder.instr
  rw [qd_rb, u]
  show Except.ok ((.iastore : Instr), p + 1 - p) = _
  rw [Nat.add_sub_cancel_left]

theorem di_80 (h : CN c N n) (hp : Nat.ble (Nat.add p 1) n = true) (e : Nat.beq (Nat.mod (Nat.shiftRight N (Nat.mul 8 p)) 256) 80 = true) : decode c p = .ok (.lastore, 1) := by
  have hp := Nat.le_of_ble_eq_true hp
  have hp : p + 1 ≤ n := hp
  have u := qd_u1 h (p := p) (by omega)
  rw [qd_e1 e] at u
  unfold decode ClassFile.Decoder.instr
  rw [qd_rb, u]
  show Except.ok ((.lastore : Instr), p + 1 - p) = _
  rw [Nat.add_sub_cancel_left]

theorem di_83 (h : CN c N n) (hp : Nat.ble (Nat.add p 1) n = true) (e : Nat.beq (Nat.mod (Nat.shiftRight N (Nat.mul 8 p)) 256) 83 = true) : decode c p = .ok (.aastore, 1) := by
  have hp := Nat.le_of_ble_eq_true hp
  have hp : p + 1 ≤ n := hp
  have u := qd_u1 h (p := p) (by omega)
  rw [qd_e1 e] at u
  unfold decode ClassFile.Decoder.instr
  rw [qd_rb, u]
  show Except.ok ((.aastore : Instr), p + 1 - p) = _
  rw [Nat.add_sub_cancel_left]

theorem di_84 (h : CN c N n) (hp : Nat.ble (Nat.add p 1) n = true) (e : Nat.beq (Nat.mod (Nat.shiftRight N (Nat.mul 8 p)) 256) 84 = true) : decode c p = .ok (.bastore, 1) := by
  have hp := Nat.le_of_ble_eq_true hp
  have hp : p + 1 ≤ n := hp
  have u := qd_u1 h (p := p) (by omega)
  rw [qd_e1 e] at u
  unfold decode ClassFile.Decoder.instr
  rw [qd_rb, u]
  show Except.ok ((.bastore : Instr), p + 1 - p) = _
  rw [Nat.add_sub_cancel_left]

theorem di_86 (h : CN c N n) (hp : Nat.ble (Nat.add p 1) n = true) (e : Nat.beq (Nat.mod (Nat.shiftRight N (Nat.mul 8 p)) 256) 86 = true) : decode c p = .ok (.sastore, 1) := by
  have hp := Nat.le_of_ble_eq_true hp
  have hp : p + 1 ≤ n := hp
  have u := qd_u1 h (p := p) (by omega)
  rw [qd_e1 e] at u
  unfold decode ClassFile.Decoder.instr
  rw [qd_rb, u]
  show Except.ok ((.sastore : Instr), p + 1 - p) = _
  rw [Nat.add_sub_cancel_left]

theorem di_87 (h : CN c N n) (hp : Nat.ble (Nat.add p 1) n = true) (e : Nat.beq (Nat.mod (Nat.shiftRight N (Nat.mul 8 p)) 256) 87 = true) : decode c p = .ok (.pop, 1) := by
  have hp := Nat.le_of_ble_eq_true hp
  have hp : p + 1 ≤ n := hp
  have u := qd_u1 h (p := p) (by omega)
  rw [qd_e1 e] at u
  unfold decode ClassFile.Decoder.instr
  rw [qd_rb, u]
  show Except.ok ((.pop : Instr), p + 1 - p) = _
  rw [Nat.add_sub_cancel_left]

theorem di_88 (h : CN c N n) (hp : Nat.ble (Nat.add p 1) n = true) (e : Nat.beq (Nat.mod (Nat.shiftRight N (Nat.mul 8 p)) 256) 88 = true) : decode c p = .ok (.pop2, 1) := by
  have hp := Nat.le_of_ble_eq_true hp
  have hp : p + 1 ≤ n := hp
  have u := qd_u1 h (p := p) (by omega)
  rw [qd_e1 e] at u
  unfold decode ClassFile.Decoder.instr
  rw [qd_rb, u]
  show Except.ok ((.pop2 : Instr), p + 1 - p) = _
  rw [Nat.add_sub_cancel_left]

theorem di_89 (h : CN c N n) (hp : Nat.ble (Nat.add p 1) n = true) (e : Nat.beq (Nat.mod (Nat.shiftRight N (Nat.mul 8 p)) 256) 89 = true) : decode c p = .ok (.dup, 1) := by
  have hp := Nat.le_of_ble_eq_true hp
  have hp : p + 1 ≤ n := hp
  have u := qd_u1 h (p := p) (by omega)
  rw [qd_e1 e] at u
  unfold decode ClassFile.Decoder.instr
  rw [qd_rb, u]
  show Except.ok ((.dup : Instr), p + 1 - p) = _
  rw [Nat.add_sub_cancel_left]

theorem di_92 (h : CN c N n) (hp : Nat.ble (Nat.add p 1) n = true) (e : Nat.beq (Nat.mod (Nat.shiftRight N (Nat.mul 8 p)) 256) 92 = true) : decode c p = .ok (.dup2, 1) := by
  have hp := Nat.le_of_ble_eq_true hp
  have hp : p + 1 ≤ n := hp
  have u := qd_u1 h (p := p) (by omega)
  rw [qd_e1 e] at u
  unfold decode ClassFile.Decoder.instr
  rw [qd_rb, u]
  show Except.ok ((.dup2 : Instr), p + 1 - p) = _
  rw [Nat.add_sub_cancel_left]

theorem di_96 (h : CN c N n) (hp : Nat.ble (Nat.add p 1) n = true) (e : Nat.beq (Nat.mod (Nat.shiftRight N (Nat.mul 8 p)) 256) 96 = true) : decode c p = .ok (.iadd, 1) := by
  have hp := Nat.le_of_ble_eq_true hp
  have hp : p + 1 ≤ n := hp
  have u := qd_u1 h (p := p) (by omega)
  rw [qd_e1 e] at u
  unfold decode ClassFile.Decoder.instr
  rw [qd_rb, u]
  show Except.ok ((.iadd : Instr), p + 1 - p) = _
  rw [Nat.add_sub_cancel_left]

theorem di_100 (h : CN c N n) (hp : Nat.ble (Nat.add p 1) n = true) (e : Nat.beq (Nat.mod (Nat.shiftRight N (Nat.mul 8 p)) 256) 100 = true) : decode c p = .ok (.isub, 1) := by
  have hp := Nat.le_of_ble_eq_true hp
  have hp : p + 1 ≤ n := hp
  have u := qd_u1 h (p := p) (by omega)
  rw [qd_e1 e] at u
  unfold decode ClassFile.Decoder.instr
  rw [qd_rb, u]
  show Except.ok ((.isub : Instr), p + 1 - p) = _
  rw [Nat.add_sub_cancel_left]

theorem di_104 (h : CN c N n) (hp : Nat.ble (Nat.add p 1) n = true) (e : Nat.beq (Nat.mod (Nat.shiftRight N (Nat.mul 8 p)) 256) 104 = true) : decode c p = .ok (.imul, 1) := by
  have hp := Nat.le_of_ble_eq_true hp
  have hp : p + 1 ≤ n := hp
  have u := qd_u1 h (p := p) (by omega)
  rw [qd_e1 e] at u
  unfold decode ClassFile.Decoder.instr
  rw [qd_rb, u]
  show Except.ok ((.imul : Instr), p + 1 - p) = _
  rw [Nat.add_sub_cancel_left]

theorem di_108 (h : CN c N n) (hp : Nat.ble (Nat.add p 1) n = true) (e : Nat.beq (Nat.mod (Nat.shiftRight N (Nat.mul 8 p)) 256) 108 = true) : decode c p = .ok (.idiv, 1) := by
  have hp := Nat.le_of_ble_eq_true hp
  have hp : p + 1 ≤ n := hp
  have u := qd_u1 h (p := p) (by omega)
  rw [qd_e1 e] at u
  unfold decode ClassFile.Decoder.instr
  rw [qd_rb, u]
  show Except.ok ((.idiv : Instr), p + 1 - p) = _
  rw [Nat.add_sub_cancel_left]

theorem di_112 (h : CN c N n) (hp : Nat.ble (Nat.add p 1) n = true) (e : Nat.beq (Nat.mod (Nat.shiftRight N (Nat.mul 8 p)) 256) 112 = true) : decode c p = .ok (.irem, 1) := by
  have hp := Nat.le_of_ble_eq_true hp
  have hp : p + 1 ≤ n := hp
  have u := qd_u1 h (p := p) (by omega)
  rw [qd_e1 e] at u
  unfold decode ClassFile.Decoder.instr
  rw [qd_rb, u]
  show Except.ok ((.irem : Instr), p + 1 - p) = _
  rw [Nat.add_sub_cancel_left]

theorem di_116 (h : CN c N n) (hp : Nat.ble (Nat.add p 1) n = true) (e : Nat.beq (Nat.mod (Nat.shiftRight N (Nat.mul 8 p)) 256) 116 = true) : decode c p = .ok (.ineg, 1) := by
  have hp := Nat.le_of_ble_eq_true hp
  have hp : p + 1 ≤ n := hp
  have u := qd_u1 h (p := p) (by omega)
  rw [qd_e1 e] at u
  unfold decode ClassFile.Decoder.instr
  rw [qd_rb, u]
  show Except.ok ((.ineg : Instr), p + 1 - p) = _
  rw [Nat.add_sub_cancel_left]

theorem di_120 (h : CN c N n) (hp : Nat.ble (Nat.add p 1) n = true) (e : Nat.beq (Nat.mod (Nat.shiftRight N (Nat.mul 8 p)) 256) 120 = true) : decode c p = .ok (.ishl, 1) := by
  have hp := Nat.le_of_ble_eq_true hp
  have hp : p + 1 ≤ n := hp
  have u := qd_u1 h (p := p) (by omega)
  rw [qd_e1 e] at u
  unfold decode ClassFile.Decoder.instr
  rw [qd_rb, u]
  show Except.ok ((.ishl : Instr), p + 1 - p) = _
  rw [Nat.add_sub_cancel_left]

theorem di_121 (h : CN c N n) (hp : Nat.ble (Nat.add p 1) n = true) (e : Nat.beq (Nat.mod (Nat.shiftRight N (Nat.mul 8 p)) 256) 121 = true) : decode c p = .ok (.lshl, 1) := by
  have hp := Nat.le_of_ble_eq_true hp
  have hp : p + 1 ≤ n := hp
  have u := qd_u1 h (p := p) (by omega)
  rw [qd_e1 e] at u
  unfold decode ClassFile.Decoder.instr
  rw [qd_rb, u]
  show Except.ok ((.lshl : Instr), p + 1 - p) = _
  rw [Nat.add_sub_cancel_left]

theorem di_122 (h : CN c N n) (hp : Nat.ble (Nat.add p 1) n = true) (e : Nat.beq (Nat.mod (Nat.shiftRight N (Nat.mul 8 p)) 256) 122 = true) : decode c p = .ok (.ishr, 1) := by
  have hp := Nat.le_of_ble_eq_true hp
  have hp : p + 1 ≤ n := hp
  have u := qd_u1 h (p := p) (by omega)
  rw [qd_e1 e] at u
  unfold decode ClassFile.Decoder.instr
  rw [qd_rb, u]
  show Except.ok ((.ishr : Instr), p + 1 - p) = _
  rw [Nat.add_sub_cancel_left]

theorem di_124 (h : CN c N n) (hp : Nat.ble (Nat.add p 1) n = true) (e : Nat.beq (Nat.mod (Nat.shiftRight N (Nat.mul 8 p)) 256) 124 = true) : decode c p = .ok (.iushr, 1) := by
  have hp := Nat.le_of_ble_eq_true hp
  have hp : p + 1 ≤ n := hp
  have u := qd_u1 h (p := p) (by omega)
  rw [qd_e1 e] at u
  unfold decode ClassFile.Decoder.instr
  rw [qd_rb, u]
  show Except.ok ((.iushr : Instr), p + 1 - p) = _
  rw [Nat.add_sub_cancel_left]

theorem di_126 (h : CN c N n) (hp : Nat.ble (Nat.add p 1) n = true) (e : Nat.beq (Nat.mod (Nat.shiftRight N (Nat.mul 8 p)) 256) 126 = true) : decode c p = .ok (.iand, 1) := by
  have hp := Nat.le_of_ble_eq_true hp
  have hp : p + 1 ≤ n := hp
  have u := qd_u1 h (p := p) (by omega)
  rw [qd_e1 e] at u
  unfold decode ClassFile.Decoder.instr
  rw [qd_rb, u]
  show Except.ok ((.iand : Instr), p + 1 - p) = _
  rw [Nat.add_sub_cancel_left]

theorem di_127 (h : CN c N n) (hp : Nat.ble (Nat.add p 1) n = true) (e : Nat.beq (Nat.mod (Nat.shiftRight N (Nat.mul 8 p)) 256) 127 = true) : decode c p = .ok (.land, 1) := by
  have hp := Nat.le_of_ble_eq_true hp
  have hp : p + 1 ≤ n := hp
  have u := qd_u1 h (p := p) (by omega)
  rw [qd_e1 e] at u
  unfold decode ClassFile.Decoder.instr
  rw [qd_rb, u]
  show Except.ok ((.land : Instr), p + 1 - p) = _
  rw [Nat.add_sub_cancel_left]

theorem di_128 (h : CN c N n) (hp : Nat.ble (Nat.add p 1) n = true) (e : Nat.beq (Nat.mod (Nat.shiftRight N (Nat.mul 8 p)) 256) 128 = true) : decode c p = .ok (.ior, 1) := by
  have hp := Nat.le_of_ble_eq_true hp
  have hp : p + 1 ≤ n := hp
  have u := qd_u1 h (p := p) (by omega)
  rw [qd_e1 e] at u
  unfold decode ClassFile.Decoder.instr
  rw [qd_rb, u]
  show Except.ok ((.ior : Instr), p + 1 - p) = _
  rw [Nat.add_sub_cancel_left]

theorem di_129 (h : CN c N n) (hp : Nat.ble (Nat.add p 1) n = true) (e : Nat.beq (Nat.mod (Nat.shiftRight N (Nat.mul 8 p)) 256) 129 = true) : decode c p = .ok (.lor, 1) := by
  have hp := Nat.le_of_ble_eq_true hp
  have hp : p + 1 ≤ n := hp
  have u := qd_u1 h (p := p) (by omega)
  rw [qd_e1 e] at u
  unfold decode ClassFile.Decoder.instr
  rw [qd_rb, u]
  show Except.ok ((.lor : Instr), p + 1 - p) = _
  rw [Nat.add_sub_cancel_left]

theorem di_130 (h : CN c N n) (hp : Nat.ble (Nat.add p 1) n = true) (e : Nat.beq (Nat.mod (Nat.shiftRight N (Nat.mul 8 p)) 256) 130 = true) : decode c p = .ok (.ixor, 1) := by
  have hp := Nat.le_of_ble_eq_true hp
  have hp : p + 1 ≤ n := hp
  have u := qd_u1 h (p := p) (by omega)
  rw [qd_e1 e] at u
  unfold decode ClassFile.Decoder.instr
  rw [qd_rb, u]
  show Except.ok ((.ixor : Instr), p + 1 - p) = _
  rw [Nat.add_sub_cancel_left]

theorem di_132 {x y : Nat} {z : Int} (h : CN c N n) (hp : Nat.ble (Nat.add p 3) n = true) (hx : Nat.ble x 255 = true) (e : Nat.beq (Nat.mod (Nat.shiftRight N (Nat.mul 8 p)) 16777216) (Nat.add 132 (Nat.mul 256 (Nat.add x (Nat.mul 256 y)))) = true) (hz : ClassFile.Reader.signed 8 y = z) : decode c p = .ok (.iinc x z, 3) := by
  have hp := Nat.le_of_ble_eq_true hp
  have hp : p + 3 ≤ n := hp
  have hx : x ≤ 255 := Nat.le_of_ble_eq_true hx
  rw [qd_sh] at e
  have w : N / 256 ^ p % 16777216 = 132 + 256 * (x + 256 * y) := Nat.eq_of_beq_eq_true e
  have w1 : N / 256 ^ p % 256 = 132 ∧ N / 256 ^ (p + 1) % 256 = x ∧ N / 256 ^ (p + 1 + 1) % 256 = y := by
    rw [qd_n1 (p := p + 1), qd_n1]
    generalize N / 256 ^ p = M at w ⊢
    omega
  have u := qd_u1 h (p := p) (by omega)
  rw [w1.1] at u
  have v := qd_u1 h (p := p + 1) (by omega)
  rw [w1.2.1] at v
  have t := qd_s1 h (p := p + 1 + 1) (by omega)
  rw [w1.2.2, hz] at t
  unfold decode ClassFile.Decoder.instr
  rw [qd_rb, u]
  show (((ClassFile.Reader.u1 >>= fun a => ClassFile.Reader.s1 >>= fun b => pure (.iinc a b)) : ClassFile.Decoder Instr).runAt c (p + 1) >>= _) = _
  rw [qd_rb, v]
  show (((ClassFile.Reader.s1 >>= fun b => pure (.iinc x b)) : ClassFile.Decoder Instr).runAt c (p + 1 + 1) >>= _) = _
  rw [qd_rb, t]
  show Except.ok ((Instr.iinc x z : Instr), p + 3 - p) = _
  rw [Nat.add_sub_cancel_left]

theorem di_133 (h : CN c N n) (hp : Nat.ble (Nat.add p 1) n = true) (e : Nat.beq (Nat.mod (Nat.shiftRight N (Nat.mul 8 p)) 256) 133 = true) : decode c p = .ok (.i2l, 1) := by
  have hp := Nat.le_of_ble_eq_true hp
  have hp : p + 1 ≤ n := hp
  have u := qd_u1 h (p := p) (by omega)
  rw [qd_e1 e] at u
  unfold decode ClassFile.Decoder.instr
  rw [qd_rb, u]
  show Except.ok ((.i2l : Instr), p + 1 - p) = _
  rw [Nat.add_sub_cancel_left]

theorem di_136 (h : CN c N n) (hp : Nat.ble (Nat.add p 1) n = true) (e : Nat.beq (Nat.mod (Nat.shiftRight N (Nat.mul 8 p)) 256) 136 = true) : decode c p = .ok (.l2i, 1) := by
  have hp := Nat.le_of_ble_eq_true hp
  have hp : p + 1 ≤ n := hp
  have u := qd_u1 h (p := p) (by omega)
  rw [qd_e1 e] at u
  unfold decode ClassFile.Decoder.instr
  rw [qd_rb, u]
  show Except.ok ((.l2i : Instr), p + 1 - p) = _
  rw [Nat.add_sub_cancel_left]

theorem di_145 (h : CN c N n) (hp : Nat.ble (Nat.add p 1) n = true) (e : Nat.beq (Nat.mod (Nat.shiftRight N (Nat.mul 8 p)) 256) 145 = true) : decode c p = .ok (.i2b, 1) := by
  have hp := Nat.le_of_ble_eq_true hp
  have hp : p + 1 ≤ n := hp
  have u := qd_u1 h (p := p) (by omega)
  rw [qd_e1 e] at u
  unfold decode ClassFile.Decoder.instr
  rw [qd_rb, u]
  show Except.ok ((.i2b : Instr), p + 1 - p) = _
  rw [Nat.add_sub_cancel_left]

theorem di_147 (h : CN c N n) (hp : Nat.ble (Nat.add p 1) n = true) (e : Nat.beq (Nat.mod (Nat.shiftRight N (Nat.mul 8 p)) 256) 147 = true) : decode c p = .ok (.i2s, 1) := by
  have hp := Nat.le_of_ble_eq_true hp
  have hp : p + 1 ≤ n := hp
  have u := qd_u1 h (p := p) (by omega)
  rw [qd_e1 e] at u
  unfold decode ClassFile.Decoder.instr
  rw [qd_rb, u]
  show Except.ok ((.i2s : Instr), p + 1 - p) = _
  rw [Nat.add_sub_cancel_left]

theorem di_148 (h : CN c N n) (hp : Nat.ble (Nat.add p 1) n = true) (e : Nat.beq (Nat.mod (Nat.shiftRight N (Nat.mul 8 p)) 256) 148 = true) : decode c p = .ok (.lcmp, 1) := by
  have hp := Nat.le_of_ble_eq_true hp
  have hp : p + 1 ≤ n := hp
  have u := qd_u1 h (p := p) (by omega)
  rw [qd_e1 e] at u
  unfold decode ClassFile.Decoder.instr
  rw [qd_rb, u]
  show Except.ok ((.lcmp : Instr), p + 1 - p) = _
  rw [Nat.add_sub_cancel_left]

theorem di_153 {x : Nat} {z : Int} (h : CN c N n) (hp : Nat.ble (Nat.add p 3) n = true) (hx : Nat.ble x 65535 = true) (e : Nat.beq (Nat.mod (Nat.shiftRight N (Nat.mul 8 p)) 16777216) (Nat.add 153 (Nat.mul 256 (Nat.add (Nat.div x 256) (Nat.mul 256 (Nat.mod x 256))))) = true) (hz : ClassFile.Reader.signed 16 x = z) : decode c p = .ok (.ifCond .eq z, 3) := by
  have hp := Nat.le_of_ble_eq_true hp
  have hp : p + 3 ≤ n := hp
  have w := qd_e3 (by decide) hx e
  have u := qd_u1 h (p := p) (by omega)
  rw [w.1] at u
  have v := qd_s2 h (p := p + 1) (by omega)
  rw [w.2, hz] at v
  unfold decode ClassFile.Decoder.instr
  rw [qd_rb, u]
  show (((ClassFile.Reader.s2 >>= fun a => pure (.ifCond .eq a)) : ClassFile.Decoder Instr).runAt c (p + 1) >>= _) = _
  rw [qd_rb, v]
  show Except.ok ((.ifCond .eq z : Instr), p + 3 - p) = _
  rw [Nat.add_sub_cancel_left]

theorem di_154 {x : Nat} {z : Int} (h : CN c N n) (hp : Nat.ble (Nat.add p 3) n = true) (hx : Nat.ble x 65535 = true) (e : Nat.beq (Nat.mod (Nat.shiftRight N (Nat.mul 8 p)) 16777216) (Nat.add 154 (Nat.mul 256 (Nat.add (Nat.div x 256) (Nat.mul 256 (Nat.mod x 256))))) = true) (hz : ClassFile.Reader.signed 16 x = z) : decode c p = .ok (.ifCond .ne z, 3) := by
  have hp := Nat.le_of_ble_eq_true hp
  have hp : p + 3 ≤ n := hp
  have w := qd_e3 (by decide) hx e
  have u := qd_u1 h (p := p) (by omega)
  rw [w.1] at u
  have v := qd_s2 h (p := p + 1) (by omega)
  rw [w.2, hz] at v
  unfold decode ClassFile.Decoder.instr
  rw [qd_rb, u]
  show (((ClassFile.Reader.s2 >>= fun a => pure (.ifCond .ne a)) : ClassFile.Decoder Instr).runAt c (p + 1) >>= _) = _
  rw [qd_rb, v]
  show Except.ok ((.ifCond .ne z : Instr), p + 3 - p) = _
  rw [Nat.add_sub_cancel_left]

theorem di_155 {x : Nat} {z : Int} (h : CN c N n) (hp : Nat.ble (Nat.add p 3) n = true) (hx : Nat.ble x 65535 = true) (e : Nat.beq (Nat.mod (Nat.shiftRight N (Nat.mul 8 p)) 16777216) (Nat.add 155 (Nat.mul 256 (Nat.add (Nat.div x 256) (Nat.mul 256 (Nat.mod x 256))))) = true) (hz : ClassFile.Reader.signed 16 x = z) : decode c p = .ok (.ifCond .lt z, 3) := by
  have hp := Nat.le_of_ble_eq_true hp
  have hp : p + 3 ≤ n := hp
  have w := qd_e3 (by decide) hx e
  have u := qd_u1 h (p := p) (by omega)
  rw [w.1] at u
  have v := qd_s2 h (p := p + 1) (by omega)
  rw [w.2, hz] at v
  unfold decode ClassFile.Decoder.instr
  rw [qd_rb, u]
  show (((ClassFile.Reader.s2 >>= fun a => pure (.ifCond .lt a)) : ClassFile.Decoder Instr).runAt c (p + 1) >>= _) = _
  rw [qd_rb, v]
  show Except.ok ((.ifCond .lt z : Instr), p + 3 - p) = _
  rw [Nat.add_sub_cancel_left]

theorem di_156 {x : Nat} {z : Int} (h : CN c N n) (hp : Nat.ble (Nat.add p 3) n = true) (hx : Nat.ble x 65535 = true) (e : Nat.beq (Nat.mod (Nat.shiftRight N (Nat.mul 8 p)) 16777216) (Nat.add 156 (Nat.mul 256 (Nat.add (Nat.div x 256) (Nat.mul 256 (Nat.mod x 256))))) = true) (hz : ClassFile.Reader.signed 16 x = z) : decode c p = .ok (.ifCond .ge z, 3) := by
  have hp := Nat.le_of_ble_eq_true hp
  have hp : p + 3 ≤ n := hp
  have w := qd_e3 (by decide) hx e
  have u := qd_u1 h (p := p) (by omega)
  rw [w.1] at u
  have v := qd_s2 h (p := p + 1) (by omega)
  rw [w.2, hz] at v
  unfold decode ClassFile.Decoder.instr
  rw [qd_rb, u]
  show (((ClassFile.Reader.s2 >>= fun a => pure (.ifCond .ge a)) : ClassFile.Decoder Instr).runAt c (p + 1) >>= _) = _
  rw [qd_rb, v]
  show Except.ok ((.ifCond .ge z : Instr), p + 3 - p) = _
  rw [Nat.add_sub_cancel_left]

theorem di_157 {x : Nat} {z : Int} (h : CN c N n) (hp : Nat.ble (Nat.add p 3) n = true) (hx : Nat.ble x 65535 = true) (e : Nat.beq (Nat.mod (Nat.shiftRight N (Nat.mul 8 p)) 16777216) (Nat.add 157 (Nat.mul 256 (Nat.add (Nat.div x 256) (Nat.mul 256 (Nat.mod x 256))))) = true) (hz : ClassFile.Reader.signed 16 x = z) : decode c p = .ok (.ifCond .gt z, 3) := by
  have hp := Nat.le_of_ble_eq_true hp
  have hp : p + 3 ≤ n := hp
  have w := qd_e3 (by decide) hx e
  have u := qd_u1 h (p := p) (by omega)
  rw [w.1] at u
  have v := qd_s2 h (p := p + 1) (by omega)
  rw [w.2, hz] at v
  unfold decode ClassFile.Decoder.instr
  rw [qd_rb, u]
  show (((ClassFile.Reader.s2 >>= fun a => pure (.ifCond .gt a)) : ClassFile.Decoder Instr).runAt c (p + 1) >>= _) = _
  rw [qd_rb, v]
  show Except.ok ((.ifCond .gt z : Instr), p + 3 - p) = _
  rw [Nat.add_sub_cancel_left]

theorem di_158 {x : Nat} {z : Int} (h : CN c N n) (hp : Nat.ble (Nat.add p 3) n = true) (hx : Nat.ble x 65535 = true) (e : Nat.beq (Nat.mod (Nat.shiftRight N (Nat.mul 8 p)) 16777216) (Nat.add 158 (Nat.mul 256 (Nat.add (Nat.div x 256) (Nat.mul 256 (Nat.mod x 256))))) = true) (hz : ClassFile.Reader.signed 16 x = z) : decode c p = .ok (.ifCond .le z, 3) := by
  have hp := Nat.le_of_ble_eq_true hp
  have hp : p + 3 ≤ n := hp
  have w := qd_e3 (by decide) hx e
  have u := qd_u1 h (p := p) (by omega)
  rw [w.1] at u
  have v := qd_s2 h (p := p + 1) (by omega)
  rw [w.2, hz] at v
  unfold decode ClassFile.Decoder.instr
  rw [qd_rb, u]
  show (((ClassFile.Reader.s2 >>= fun a => pure (.ifCond .le a)) : ClassFile.Decoder Instr).runAt c (p + 1) >>= _) = _
  rw [qd_rb, v]
  show Except.ok ((.ifCond .le z : Instr), p + 3 - p) = _
  rw [Nat.add_sub_cancel_left]

theorem di_159 {x : Nat} {z : Int} (h : CN c N n) (hp : Nat.ble (Nat.add p 3) n = true) (hx : Nat.ble x 65535 = true) (e : Nat.beq (Nat.mod (Nat.shiftRight N (Nat.mul 8 p)) 16777216) (Nat.add 159 (Nat.mul 256 (Nat.add (Nat.div x 256) (Nat.mul 256 (Nat.mod x 256))))) = true) (hz : ClassFile.Reader.signed 16 x = z) : decode c p = .ok (.if_icmp .eq z, 3) := by
  have hp := Nat.le_of_ble_eq_true hp
  have hp : p + 3 ≤ n := hp
  have w := qd_e3 (by decide) hx e
  have u := qd_u1 h (p := p) (by omega)
  rw [w.1] at u
  have v := qd_s2 h (p := p + 1) (by omega)
  rw [w.2, hz] at v
  unfold decode ClassFile.Decoder.instr
  rw [qd_rb, u]
  show (((ClassFile.Reader.s2 >>= fun a => pure (.if_icmp .eq a)) : ClassFile.Decoder Instr).runAt c (p + 1) >>= _) = _
  rw [qd_rb, v]
  show Except.ok ((.if_icmp .eq z : Instr), p + 3 - p) = _
  rw [Nat.add_sub_cancel_left]

theorem di_160 {x : Nat} {z : Int} (h : CN c N n) (hp : Nat.ble (Nat.add p 3) n = true) (hx : Nat.ble x 65535 = true) (e : Nat.beq (Nat.mod (Nat.shiftRight N (Nat.mul 8 p)) 16777216) (Nat.add 160 (Nat.mul 256 (Nat.add (Nat.div x 256) (Nat.mul 256 (Nat.mod x 256))))) = true) (hz : ClassFile.Reader.signed 16 x = z) : decode c p = .ok (.if_icmp .ne z, 3) := by
  have hp := Nat.le_of_ble_eq_true hp
  have hp : p + 3 ≤ n := hp
  have w := qd_e3 (by decide) hx e
  have u := qd_u1 h (p := p) (by omega)
  rw [w.1] at u
  have v := qd_s2 h (p := p + 1) (by omega)
  rw [w.2, hz] at v
  unfold decode ClassFile.Decoder.instr
  rw [qd_rb, u]
  show (((ClassFile.Reader.s2 >>= fun a => pure (.if_icmp .ne a)) : ClassFile.Decoder Instr).runAt c (p + 1) >>= _) = _
  rw [qd_rb, v]
  show Except.ok ((.if_icmp .ne z : Instr), p + 3 - p) = _
  rw [Nat.add_sub_cancel_left]

theorem di_161 {x : Nat} {z : Int} (h : CN c N n) (hp : Nat.ble (Nat.add p 3) n = true) (hx : Nat.ble x 65535 = true) (e : Nat.beq (Nat.mod (Nat.shiftRight N (Nat.mul 8 p)) 16777216) (Nat.add 161 (Nat.mul 256 (Nat.add (Nat.div x 256) (Nat.mul 256 (Nat.mod x 256))))) = true) (hz : ClassFile.Reader.signed 16 x = z) : decode c p = .ok (.if_icmp .lt z, 3) := by
  have hp := Nat.le_of_ble_eq_true hp
  have hp : p + 3 ≤ n := hp
  have w := qd_e3 (by decide) hx e
  have u := qd_u1 h (p := p) (by omega)
  rw [w.1] at u
  have v := qd_s2 h (p := p + 1) (by omega)
  rw [w.2, hz] at v
  unfold decode ClassFile.Decoder.instr
  rw [qd_rb, u]
  show (((ClassFile.Reader.s2 >>= fun a => pure (.if_icmp .lt a)) : ClassFile.Decoder Instr).runAt c (p + 1) >>= _) = _
  rw [qd_rb, v]
  show Except.ok ((.if_icmp .lt z : Instr), p + 3 - p) = _
  rw [Nat.add_sub_cancel_left]

theorem di_162 {x : Nat} {z : Int} (h : CN c N n) (hp : Nat.ble (Nat.add p 3) n = true) (hx : Nat.ble x 65535 = true) (e : Nat.beq (Nat.mod (Nat.shiftRight N (Nat.mul 8 p)) 16777216) (Nat.add 162 (Nat.mul 256 (Nat.add (Nat.div x 256) (Nat.mul 256 (Nat.mod x 256))))) = true) (hz : ClassFile.Reader.signed 16 x = z) : decode c p = .ok (.if_icmp .ge z, 3) := by
  have hp := Nat.le_of_ble_eq_true hp
  have hp : p + 3 ≤ n := hp
  have w := qd_e3 (by decide) hx e
  have u := qd_u1 h (p := p) (by omega)
  rw [w.1] at u
  have v := qd_s2 h (p := p + 1) (by omega)
  rw [w.2, hz] at v
  unfold decode ClassFile.Decoder.instr
  rw [qd_rb, u]
  show (((ClassFile.Reader.s2 >>= fun a => pure (.if_icmp .ge a)) : ClassFile.Decoder Instr).runAt c (p + 1) >>= _) = _
  rw [qd_rb, v]
  show Except.ok ((.if_icmp .ge z : Instr), p + 3 - p) = _
  rw [Nat.add_sub_cancel_left]

theorem di_163 {x : Nat} {z : Int} (h : CN c N n) (hp : Nat.ble (Nat.add p 3) n = true) (hx : Nat.ble x 65535 = true) (e : Nat.beq (Nat.mod (Nat.shiftRight N (Nat.mul 8 p)) 16777216) (Nat.add 163 (Nat.mul 256 (Nat.add (Nat.div x 256) (Nat.mul 256 (Nat.mod x 256))))) = true) (hz : ClassFile.Reader.signed 16 x = z) : decode c p = .ok (.if_icmp .gt z, 3) := by
  have hp := Nat.le_of_ble_eq_true hp
  have hp : p + 3 ≤ n := hp
  have w := qd_e3 (by decide) hx e
  have u := qd_u1 h (p := p) (by omega)
  rw [w.1] at u
  have v := qd_s2 h (p := p + 1) (by omega)
  rw [w.2, hz] at v
  unfold decode ClassFile.Decoder.instr
  rw [qd_rb, u]
  show (((ClassFile.Reader.s2 >>= fun a => pure (.if_icmp .gt a)) : ClassFile.Decoder Instr).runAt c (p + 1) >>= _) = _
  rw [qd_rb, v]
  show Except.ok ((.if_icmp .gt z : Instr), p + 3 - p) = _
  rw [Nat.add_sub_cancel_left]

theorem di_164 {x : Nat} {z : Int} (h : CN c N n) (hp : Nat.ble (Nat.add p 3) n = true) (hx : Nat.ble x 65535 = true) (e : Nat.beq (Nat.mod (Nat.shiftRight N (Nat.mul 8 p)) 16777216) (Nat.add 164 (Nat.mul 256 (Nat.add (Nat.div x 256) (Nat.mul 256 (Nat.mod x 256))))) = true) (hz : ClassFile.Reader.signed 16 x = z) : decode c p = .ok (.if_icmp .le z, 3) := by
  have hp := Nat.le_of_ble_eq_true hp
  have hp : p + 3 ≤ n := hp
  have w := qd_e3 (by decide) hx e
  have u := qd_u1 h (p := p) (by omega)
  rw [w.1] at u
  have v := qd_s2 h (p := p + 1) (by omega)
  rw [w.2, hz] at v
  unfold decode ClassFile.Decoder.instr
  rw [qd_rb, u]
  show (((ClassFile.Reader.s2 >>= fun a => pure (.if_icmp .le a)) : ClassFile.Decoder Instr).runAt c (p + 1) >>= _) = _
  rw [qd_rb, v]
  show Except.ok ((.if_icmp .le z : Instr), p + 3 - p) = _
  rw [Nat.add_sub_cancel_left]

theorem di_167 {x : Nat} {z : Int} (h : CN c N n) (hp : Nat.ble (Nat.add p 3) n = true) (hx : Nat.ble x 65535 = true) (e : Nat.beq (Nat.mod (Nat.shiftRight N (Nat.mul 8 p)) 16777216) (Nat.add 167 (Nat.mul 256 (Nat.add (Nat.div x 256) (Nat.mul 256 (Nat.mod x 256))))) = true) (hz : ClassFile.Reader.signed 16 x = z) : decode c p = .ok (.goto z, 3) := by
  have hp := Nat.le_of_ble_eq_true hp
  have hp : p + 3 ≤ n := hp
  have w := qd_e3 (by decide) hx e
  have u := qd_u1 h (p := p) (by omega)
  rw [w.1] at u
  have v := qd_s2 h (p := p + 1) (by omega)
  rw [w.2, hz] at v
  unfold decode ClassFile.Decoder.instr
  rw [qd_rb, u]
  show (((ClassFile.Reader.s2 >>= fun a => pure (.goto a)) : ClassFile.Decoder Instr).runAt c (p + 1) >>= _) = _
  rw [qd_rb, v]
  show Except.ok ((.goto z : Instr), p + 3 - p) = _
  rw [Nat.add_sub_cancel_left]

theorem di_172 (h : CN c N n) (hp : Nat.ble (Nat.add p 1) n = true) (e : Nat.beq (Nat.mod (Nat.shiftRight N (Nat.mul 8 p)) 256) 172 = true) : decode c p = .ok (.ireturn, 1) := by
  have hp := Nat.le_of_ble_eq_true hp
  have hp : p + 1 ≤ n := hp
  have u := qd_u1 h (p := p) (by omega)
  rw [qd_e1 e] at u
  unfold decode ClassFile.Decoder.instr
  rw [qd_rb, u]
  show Except.ok ((.ireturn : Instr), p + 1 - p) = _
  rw [Nat.add_sub_cancel_left]

theorem di_173 (h : CN c N n) (hp : Nat.ble (Nat.add p 1) n = true) (e : Nat.beq (Nat.mod (Nat.shiftRight N (Nat.mul 8 p)) 256) 173 = true) : decode c p = .ok (.lreturn, 1) := by
  have hp := Nat.le_of_ble_eq_true hp
  have hp : p + 1 ≤ n := hp
  have u := qd_u1 h (p := p) (by omega)
  rw [qd_e1 e] at u
  unfold decode ClassFile.Decoder.instr
  rw [qd_rb, u]
  show Except.ok ((.lreturn : Instr), p + 1 - p) = _
  rw [Nat.add_sub_cancel_left]

theorem di_176 (h : CN c N n) (hp : Nat.ble (Nat.add p 1) n = true) (e : Nat.beq (Nat.mod (Nat.shiftRight N (Nat.mul 8 p)) 256) 176 = true) : decode c p = .ok (.areturn, 1) := by
  have hp := Nat.le_of_ble_eq_true hp
  have hp : p + 1 ≤ n := hp
  have u := qd_u1 h (p := p) (by omega)
  rw [qd_e1 e] at u
  unfold decode ClassFile.Decoder.instr
  rw [qd_rb, u]
  show Except.ok ((.areturn : Instr), p + 1 - p) = _
  rw [Nat.add_sub_cancel_left]

theorem di_177 (h : CN c N n) (hp : Nat.ble (Nat.add p 1) n = true) (e : Nat.beq (Nat.mod (Nat.shiftRight N (Nat.mul 8 p)) 256) 177 = true) : decode c p = .ok (.return_, 1) := by
  have hp := Nat.le_of_ble_eq_true hp
  have hp : p + 1 ≤ n := hp
  have u := qd_u1 h (p := p) (by omega)
  rw [qd_e1 e] at u
  unfold decode ClassFile.Decoder.instr
  rw [qd_rb, u]
  show Except.ok ((.return_ : Instr), p + 1 - p) = _
  rw [Nat.add_sub_cancel_left]

theorem di_178 {x : Nat} (h : CN c N n) (hp : Nat.ble (Nat.add p 3) n = true) (hx : Nat.ble x 65535 = true) (e : Nat.beq (Nat.mod (Nat.shiftRight N (Nat.mul 8 p)) 16777216) (Nat.add 178 (Nat.mul 256 (Nat.add (Nat.div x 256) (Nat.mul 256 (Nat.mod x 256))))) = true) : decode c p = .ok (.getstatic x, 3) := by
  have hp := Nat.le_of_ble_eq_true hp
  have hp : p + 3 ≤ n := hp
  have w := qd_e3 (by decide) hx e
  have u := qd_u1 h (p := p) (by omega)
  rw [w.1] at u
  have v := qd_u2 h (p := p + 1) (by omega)
  rw [w.2] at v
  unfold decode ClassFile.Decoder.instr
  rw [qd_rb, u]
  show (((ClassFile.Reader.u2 >>= fun a => pure (.getstatic a)) : ClassFile.Decoder Instr).runAt c (p + 1) >>= _) = _
  rw [qd_rb, v]
  show Except.ok ((.getstatic x : Instr), p + 3 - p) = _
  rw [Nat.add_sub_cancel_left]

theorem di_180 {x : Nat} (h : CN c N n) (hp : Nat.ble (Nat.add p 3) n = true) (hx : Nat.ble x 65535 = true) (e : Nat.beq (Nat.mod (Nat.shiftRight N (Nat.mul 8 p)) 16777216) (Nat.add 180 (Nat.mul 256 (Nat.add (Nat.div x 256) (Nat.mul 256 (Nat.mod x 256))))) = true) : decode c p = .ok (.getfield x, 3) := by
  have hp := Nat.le_of_ble_eq_true hp
  have hp : p + 3 ≤ n := hp
  have w := qd_e3 (by decide) hx e
  have u := qd_u1 h (p := p) (by omega)
  rw [w.1] at u
  have v := qd_u2 h (p := p + 1) (by omega)
  rw [w.2] at v
  unfold decode ClassFile.Decoder.instr
  rw [qd_rb, u]
  show (((ClassFile.Reader.u2 >>= fun a => pure (.getfield a)) : ClassFile.Decoder Instr).runAt c (p + 1) >>= _) = _
  rw [qd_rb, v]
  show Except.ok ((.getfield x : Instr), p + 3 - p) = _
  rw [Nat.add_sub_cancel_left]

theorem di_181 {x : Nat} (h : CN c N n) (hp : Nat.ble (Nat.add p 3) n = true) (hx : Nat.ble x 65535 = true) (e : Nat.beq (Nat.mod (Nat.shiftRight N (Nat.mul 8 p)) 16777216) (Nat.add 181 (Nat.mul 256 (Nat.add (Nat.div x 256) (Nat.mul 256 (Nat.mod x 256))))) = true) : decode c p = .ok (.putfield x, 3) := by
  have hp := Nat.le_of_ble_eq_true hp
  have hp : p + 3 ≤ n := hp
  have w := qd_e3 (by decide) hx e
  have u := qd_u1 h (p := p) (by omega)
  rw [w.1] at u
  have v := qd_u2 h (p := p + 1) (by omega)
  rw [w.2] at v
  unfold decode ClassFile.Decoder.instr
  rw [qd_rb, u]
  show (((ClassFile.Reader.u2 >>= fun a => pure (.putfield a)) : ClassFile.Decoder Instr).runAt c (p + 1) >>= _) = _
  rw [qd_rb, v]
  show Except.ok ((.putfield x : Instr), p + 3 - p) = _
  rw [Nat.add_sub_cancel_left]

theorem di_182 {x : Nat} (h : CN c N n) (hp : Nat.ble (Nat.add p 3) n = true) (hx : Nat.ble x 65535 = true) (e : Nat.beq (Nat.mod (Nat.shiftRight N (Nat.mul 8 p)) 16777216) (Nat.add 182 (Nat.mul 256 (Nat.add (Nat.div x 256) (Nat.mul 256 (Nat.mod x 256))))) = true) : decode c p = .ok (.invokevirtual x, 3) := by
  have hp := Nat.le_of_ble_eq_true hp
  have hp : p + 3 ≤ n := hp
  have w := qd_e3 (by decide) hx e
  have u := qd_u1 h (p := p) (by omega)
  rw [w.1] at u
  have v := qd_u2 h (p := p + 1) (by omega)
  rw [w.2] at v
  unfold decode ClassFile.Decoder.instr
  rw [qd_rb, u]
  show (((ClassFile.Reader.u2 >>= fun a => pure (.invokevirtual a)) : ClassFile.Decoder Instr).runAt c (p + 1) >>= _) = _
  rw [qd_rb, v]
  show Except.ok ((.invokevirtual x : Instr), p + 3 - p) = _
  rw [Nat.add_sub_cancel_left]

theorem di_183 {x : Nat} (h : CN c N n) (hp : Nat.ble (Nat.add p 3) n = true) (hx : Nat.ble x 65535 = true) (e : Nat.beq (Nat.mod (Nat.shiftRight N (Nat.mul 8 p)) 16777216) (Nat.add 183 (Nat.mul 256 (Nat.add (Nat.div x 256) (Nat.mul 256 (Nat.mod x 256))))) = true) : decode c p = .ok (.invokespecial x, 3) := by
  have hp := Nat.le_of_ble_eq_true hp
  have hp : p + 3 ≤ n := hp
  have w := qd_e3 (by decide) hx e
  have u := qd_u1 h (p := p) (by omega)
  rw [w.1] at u
  have v := qd_u2 h (p := p + 1) (by omega)
  rw [w.2] at v
  unfold decode ClassFile.Decoder.instr
  rw [qd_rb, u]
  show (((ClassFile.Reader.u2 >>= fun a => pure (.invokespecial a)) : ClassFile.Decoder Instr).runAt c (p + 1) >>= _) = _
  rw [qd_rb, v]
  show Except.ok ((.invokespecial x : Instr), p + 3 - p) = _
  rw [Nat.add_sub_cancel_left]

theorem di_184 {x : Nat} (h : CN c N n) (hp : Nat.ble (Nat.add p 3) n = true) (hx : Nat.ble x 65535 = true) (e : Nat.beq (Nat.mod (Nat.shiftRight N (Nat.mul 8 p)) 16777216) (Nat.add 184 (Nat.mul 256 (Nat.add (Nat.div x 256) (Nat.mul 256 (Nat.mod x 256))))) = true) : decode c p = .ok (.invokestatic x, 3) := by
  have hp := Nat.le_of_ble_eq_true hp
  have hp : p + 3 ≤ n := hp
  have w := qd_e3 (by decide) hx e
  have u := qd_u1 h (p := p) (by omega)
  rw [w.1] at u
  have v := qd_u2 h (p := p + 1) (by omega)
  rw [w.2] at v
  unfold decode ClassFile.Decoder.instr
  rw [qd_rb, u]
  show (((ClassFile.Reader.u2 >>= fun a => pure (.invokestatic a)) : ClassFile.Decoder Instr).runAt c (p + 1) >>= _) = _
  rw [qd_rb, v]
  show Except.ok ((.invokestatic x : Instr), p + 3 - p) = _
  rw [Nat.add_sub_cancel_left]

theorem di_187 {x : Nat} (h : CN c N n) (hp : Nat.ble (Nat.add p 3) n = true) (hx : Nat.ble x 65535 = true) (e : Nat.beq (Nat.mod (Nat.shiftRight N (Nat.mul 8 p)) 16777216) (Nat.add 187 (Nat.mul 256 (Nat.add (Nat.div x 256) (Nat.mul 256 (Nat.mod x 256))))) = true) : decode c p = .ok (.new x, 3) := by
  have hp := Nat.le_of_ble_eq_true hp
  have hp : p + 3 ≤ n := hp
  have w := qd_e3 (by decide) hx e
  have u := qd_u1 h (p := p) (by omega)
  rw [w.1] at u
  have v := qd_u2 h (p := p + 1) (by omega)
  rw [w.2] at v
  unfold decode ClassFile.Decoder.instr
  rw [qd_rb, u]
  show (((ClassFile.Reader.u2 >>= fun a => pure (.new a)) : ClassFile.Decoder Instr).runAt c (p + 1) >>= _) = _
  rw [qd_rb, v]
  show Except.ok ((.new x : Instr), p + 3 - p) = _
  rw [Nat.add_sub_cancel_left]

theorem di_189 {x : Nat} (h : CN c N n) (hp : Nat.ble (Nat.add p 3) n = true) (hx : Nat.ble x 65535 = true) (e : Nat.beq (Nat.mod (Nat.shiftRight N (Nat.mul 8 p)) 16777216) (Nat.add 189 (Nat.mul 256 (Nat.add (Nat.div x 256) (Nat.mul 256 (Nat.mod x 256))))) = true) : decode c p = .ok (.anewarray x, 3) := by
  have hp := Nat.le_of_ble_eq_true hp
  have hp : p + 3 ≤ n := hp
  have w := qd_e3 (by decide) hx e
  have u := qd_u1 h (p := p) (by omega)
  rw [w.1] at u
  have v := qd_u2 h (p := p + 1) (by omega)
  rw [w.2] at v
  unfold decode ClassFile.Decoder.instr
  rw [qd_rb, u]
  show (((ClassFile.Reader.u2 >>= fun a => pure (.anewarray a)) : ClassFile.Decoder Instr).runAt c (p + 1) >>= _) = _
  rw [qd_rb, v]
  show Except.ok ((.anewarray x : Instr), p + 3 - p) = _
  rw [Nat.add_sub_cancel_left]

theorem di_190 (h : CN c N n) (hp : Nat.ble (Nat.add p 1) n = true) (e : Nat.beq (Nat.mod (Nat.shiftRight N (Nat.mul 8 p)) 256) 190 = true) : decode c p = .ok (.arraylength, 1) := by
  have hp := Nat.le_of_ble_eq_true hp
  have hp : p + 1 ≤ n := hp
  have u := qd_u1 h (p := p) (by omega)
  rw [qd_e1 e] at u
  unfold decode ClassFile.Decoder.instr
  rw [qd_rb, u]
  show Except.ok ((.arraylength : Instr), p + 1 - p) = _
  rw [Nat.add_sub_cancel_left]

theorem di_198 {x : Nat} {z : Int} (h : CN c N n) (hp : Nat.ble (Nat.add p 3) n = true) (hx : Nat.ble x 65535 = true) (e : Nat.beq (Nat.mod (Nat.shiftRight N (Nat.mul 8 p)) 16777216) (Nat.add 198 (Nat.mul 256 (Nat.add (Nat.div x 256) (Nat.mul 256 (Nat.mod x 256))))) = true) (hz : ClassFile.Reader.signed 16 x = z) : decode c p = .ok (.ifnull z, 3) := by
  have hp := Nat.le_of_ble_eq_true hp
  have hp : p + 3 ≤ n := hp
  have w := qd_e3 (by decide) hx e
  have u := qd_u1 h (p := p) (by omega)
  rw [w.1] at u
  have v := qd_s2 h (p := p + 1) (by omega)
  rw [w.2, hz] at v
  unfold decode ClassFile.Decoder.instr
  rw [qd_rb, u]
  show (((ClassFile.Reader.s2 >>= fun a => pure (.ifnull a)) : ClassFile.Decoder Instr).runAt c (p + 1) >>= _) = _
  rw [qd_rb, v]
  show Except.ok ((.ifnull z : Instr), p + 3 - p) = _
  rw [Nat.add_sub_cancel_left]

theorem di_199 {x : Nat} {z : Int} (h : CN c N n) (hp : Nat.ble (Nat.add p 3) n = true) (hx : Nat.ble x 65535 = true) (e : Nat.beq (Nat.mod (Nat.shiftRight N (Nat.mul 8 p)) 16777216) (Nat.add 199 (Nat.mul 256 (Nat.add (Nat.div x 256) (Nat.mul 256 (Nat.mod x 256))))) = true) (hz : ClassFile.Reader.signed 16 x = z) : decode c p = .ok (.ifnonnull z, 3) := by
  have hp := Nat.le_of_ble_eq_true hp
  have hp : p + 3 ≤ n := hp
  have w := qd_e3 (by decide) hx e
  have u := qd_u1 h (p := p) (by omega)
  rw [w.1] at u
  have v := qd_s2 h (p := p + 1) (by omega)
  rw [w.2, hz] at v
  unfold decode ClassFile.Decoder.instr
  rw [qd_rb, u]
  show (((ClassFile.Reader.s2 >>= fun a => pure (.ifnonnull a)) : ClassFile.Decoder Instr).runAt c (p + 1) >>= _) = _
  rw [qd_rb, v]
  show Except.ok ((.ifnonnull z : Instr), p + 3 - p) = _
  rw [Nat.add_sub_cancel_left]
end QD
/-- slices of the chunks of a list of words -/
def sliceC (cs : List (List Cond)) : List (Nat × Nat × Nat) → List Cond
  | [] => []
  | (c, s, n) :: r => (((cs[c]?).getD []).drop s).take n ++ sliceC cs r
theorem sliceC_in {cs : List (List Cond)} {big : List Cond} (hc : ∀ l ∈ cs, ∀ w ∈ l, w ∈ big) : ∀ ps : List (Nat × Nat × Nat), ∀ w ∈ sliceC cs ps, w ∈ big := by
  intro ps
  induction ps with
  | nil => intro w h; cases h
  | cons p r ih =>
    intro w h
    obtain ⟨c, s, n⟩ := p
    have h : w ∈ (((cs[c]?).getD []).drop s).take n ++ sliceC cs r := h
    rcases List.mem_append.mp h with h | h
    · have h := List.mem_of_mem_drop (List.mem_of_mem_take h)
      cases e : cs[c]? with
      | none => rw [e] at h; cases h
      | some l => rw [e] at h; exact hc l (List.mem_of_getElem? e) w h
    · exact ih w h
theorem goodIn_sl {big : List Cond} (cs : List (List Cond)) (hc : ∀ l ∈ cs, ∀ w ∈ l, w ∈ big) (ws : List Cond) (ps : List (Nat × Nat × Nat)) (hp : ws = sliceC cs ps) (h : ws.all goodWord = true) : GoodIn big ws := by
  intro w hw
  have h1 := List.all_eq_true.mp h w hw
  rw [hp] at hw
  exact ⟨sliceC_in hc ps w hw, good_of_word h1⟩
end
