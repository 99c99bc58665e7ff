section
/-! THE CLAIM OUT OF ONE WALK OF THE LAW'S BODY. Your part is whole_start (and what it stands on); all else here is the same for every law, but numbers. -/
noncomputable def R_law : String := "SeatsRoundLaw"
noncomputable def lw_P (b : Addr) (xs : List Int32) (args : Array Value) (s : State) : Prop := args = #[.ref b] ∧ s.IntsAt b xs ∧ xs.length ≤ 3072 ∧ (Jvm.Cond.and given_1 narrow_1).before args s = true
noncomputable def lw_Q (_ : Array Value) (s : State) (o : Outcome) (t : State) : Prop := o = .returned (some (.int 1)) ∧ Framed s o t [] 600000 7302250
noncomputable def lw_Z (below : List Frame) (a : Array Value) (s : State) : State → Prop := fun t => ∃ o, t.status = .running ∧ Ended t below o ∧ lw_Q a s o t
/-- the law's own end, with 1 on the stack, nothing written that was there before, its room as the claim has it -/
theorem lw_ret {p : Program} {l : Launch} {e : Env} {s : State} {m : MethodId} {below : List Frame} {meth : Method} {c : Code} {b : Nat} (hx : p.tables.exec = Jvm.exec) (hb : c.code = code) (hr : meth.sig.returnType = ret) (hlocks : meth.locks = false) {pc : Nat} {H : Heap} {ls : Array Slot} (hdg : decode code pc = .ok (.ireturn, 1)) : W p l e room_1 s m #[Value.ref b] below meth c H [] 600000 7302250 (lw_Z below #[Value.ref b] s) (F0 m pc ls [.int 1]) := by
  intro T hT X
  obtain ⟨fs, hret, hrun, hended, hW, hframe⟩ := X.leave (v := some (.int 1)) (hlocks := hlocks) (fun h => by rw [hr] at h; cases h)
  have hmeth' : T.vm.method? m = some meth := X.method'
  refine ⟨T.setFrames fs, ?_, .returned (some (.int 1)), hrun, hended, rfl, ⟨_, rfl⟩, hW, hframe⟩
  jvm_step X.here [X.here.top, hx, hb, hdg, hmeth', hr, ret, narrow_b1]
  (try refine ⟨rfl, ?_⟩); (try refine ⟨rfl, ?_⟩)
  first | (intro acts; rw [hret _ acts rfl rfl rfl]) | rw [hret _ _ rfl rfl rfl]
  exact Steps.refl _
/-- what holds at the law's entry: the machine, the code, the tables' words (any of lw_tbl by 'hts w (by decide +kernel)'), the script of L ints xs at the cell b, what the Statement gives of the start (any of its parts by flat_of_before) -/
noncomputable def lw_At (p : Program) (s : State) (m : MethodId) (meth : Method) (c : Code) (b L : Nat) (xs : Nat → Int32) : Prop :=
  p.tables.exec = Jvm.exec ∧ c.code = code ∧ meth.sig.returnType = ret ∧ c.maxLocals = 4 ∧ s.vm.findClass R_law = some m.cls ∧ (∀ w ∈ lw_tbl, w.before #[Value.ref b] s = true) ∧ va_X b L xs s s.heap ∧ b < s.heap.size ∧ meth.locks = false ∧ (Jvm.Cond.and given_1 narrow_1).before #[Value.ref b] s = true
end
section
theorem hiC_of1 {α : Type} {g τ : Nat} {z : α × S2} (h : IvC g τ z.2) : IvC g τ z.2 := h
theorem sc_in {i k L : Nat} (h : i + k < L) (hL : L ≤ 3072) : vp_in (nI i + nI k) L := by
  rw [show nI i + nI k = nI (i + k) from nI_add i k]
  exact vp_in_nI (by omega) (by omega)
theorem ka_start {s : State} {A : Nat → Prop} {b : Nat} (hA : ∀ a : Nat, a < s.heap.size → ¬ A a) (hgv : (Jvm.Cond.and given_1 narrow_1).before #[Value.ref b] s = true) (hts : ∀ w ∈ lw_tbl, w.before #[Value.ref b] s = true) : ∃ t, va_Z "SeatsRound" "KIND_ABOVE" "[I" (.ref t) A s s.heap ∧ va_T .int t 7 (fun j => .int (kaI j)) A s s.heap := by
  have hs := flat_of_before _ hgv
  have harr : (Cond.arrayOf (.static "SeatsRound" "KIND_ABOVE" "[I") .int).before #[Value.ref b] s = true := hs _ (by decide +kernel)
  have hlen := va_eqt (hs (Cond.eq (.length (.static "SeatsRound" "KIND_ABOVE" "[I")) (.int 7)) (by decide +kernel))
  have he : ∀ j : Nat, j < 7 → (Term.elem (.static "SeatsRound" "KIND_ABOVE" "[I") (.int (Int32.ofNat j))).eval #[Value.ref b] s none [] s = some (.int (kaI j)) := fun j hj => match j, hj with
    | 0, _ => va_eqt (hs (Cond.eq (.elem (.static "SeatsRound" "KIND_ABOVE" "[I") (.int 0)) (.int (-1))) (by decide +kernel))
    | 1, _ => va_eqt (hs (Cond.eq (.elem (.static "SeatsRound" "KIND_ABOVE" "[I") (.int 1)) (.int 0)) (by decide +kernel))
    | 2, _ => va_eqt (hs (Cond.eq (.elem (.static "SeatsRound" "KIND_ABOVE" "[I") (.int 2)) (.int 0)) (by decide +kernel))
    | 3, _ => va_eqt (hs (Cond.eq (.elem (.static "SeatsRound" "KIND_ABOVE" "[I") (.int 3)) (.int 0)) (by decide +kernel))
    | 4, _ => va_eqt (hs (Cond.eq (.elem (.static "SeatsRound" "KIND_ABOVE" "[I") (.int 4)) (.int 0)) (by decide +kernel))
    | 5, _ => va_eqt (hs (Cond.eq (.elem (.static "SeatsRound" "KIND_ABOVE" "[I") (.int 5)) (.int 0)) (by decide +kernel))
    | 6, _ => va_eqt (hs (Cond.eq (.elem (.static "SeatsRound" "KIND_ABOVE" "[I") (.int 6)) (.int 1)) (by decide +kernel))
    | j + 7, hj => absurd hj (by omega)
  obtain ⟨t, ht, hT⟩ := va_Tof (N := 7) (f := fun j => .int (kaI j)) (by decide) harr hlen he hA
  exact ⟨t, va_Zref (hts (.laysStatic "SeatsRound" "KIND_ABOVE" "[I") (by decide +kernel)) (hts (.initialized "SeatsRound") (by decide +kernel)) ht hA, hT⟩
theorem sl_gt {i L : Nat} (h : L < i + 6) (hL : L ≤ 3072) (h2 : i ≤ L) : nI i > Int32.ofNat L - nI 6 := by
  have e1 := nI_toInt (n := i) (by omega)
  have e2 : (Int32.ofNat L).toInt = (L : Int) := nI_toInt (n := L) (by omega)
  have e6 : (nI 6).toInt = 6 := rfl
  refine Int32.lt_iff_toInt_lt.mpr ?_
  rw [i32_sub (by omega) (by omega)]; omega
theorem sl_le {i L : Nat} (h : i + 6 ≤ L) (hL : L ≤ 3072) : ¬ nI i > Int32.ofNat L - nI 6 := fun q => by
  have e1 := nI_toInt (n := i) (by omega)
  have e2 : (Int32.ofNat L).toInt = (L : Int) := nI_toInt (n := L) (by omega)
  have e6 : (nI 6).toInt = 6 := rfl
  have q := Int32.lt_iff_toInt_lt.mp q
  rw [i32_sub (by omega) (by omega)] at q; omega
theorem sl_inc (i : Nat) : nI i + 6 = nI (i + 6) := nI_add i 6
section LAW
variable {p : Program} {l : Launch} {e : Env} {s : State} {m : MethodId} {below : List Frame} {meth : Method} {c : Code} {A : Nat → Prop} {b : Nat} {xs : Nat → Int32} {H : Heap} {locs : List Loc} {ls : Array Slot} {cells slots L : Nat}
theorem law_out (C0 : lw_At p s m meth c b L xs) (hAe : A = fun q : Nat => s.heap.size ≤ q) (hS : va_S A s.heap H locs) (hc : cells ≤ 600000) (hs : slots ≤ 7302250) : W p l e room_1 s m #[Value.ref b] below meth c H locs cells slots (lw_Z below #[Value.ref b] s) (F0 m 1641 ls []) := by
  obtain ⟨hx, hb, hr, hml, hown, hts, hX, hbl, hlocks, hgv⟩ := C0
  refine lv_iconst (v := 1) hx hb dL_law_1641 (by decide) ?_
  refine va_forget (fun q hq => by have h9 := hS.2.2 q hq; rw [hAe] at h9; exact h9) ?_
  refine W.widen (k := 600000) (n := 7302250) hc hs ?_
  exact lw_ret hx hb hr hlocks dL_law_1642
end LAW
end
section
theorem relA0 : RelA stC stM := by
  refine ⟨⟨rfl, fun i => rfl, fun i _ => rfl, fun i => rfl, fun i => rfl⟩, fun i => rfl, ⟨rfl, fun i => rfl⟩, fun i hi => ⟨rfl, rfl, fun h => absurd rfl h, by show ((-1 : Int32)).toInt < (0 : Int32).toInt; decide⟩, fun s i hs hi => rfl⟩
theorem lg_same {x y : Int64} (h : x = y) : lg_cmp x y = 0 := by
  subst h
  unfold lg_cmp
  rw [if_neg (fun q => by have := Int64.lt_iff_toInt_lt.mp q; omega), if_pos rfl]
noncomputable def RelL (σ ρ : S2) : Prop := RelA σ ρ
theorem relL0 : RelL stC stM := relA0
end
