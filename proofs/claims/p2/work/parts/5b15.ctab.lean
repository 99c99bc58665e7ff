theorem ux_tabB {τ nb : Nat} (hτ : τ < nb) {σ : S2} {x : Int32} {b : Nat} (h : fX11_tableAt τ σ x = some (some b)) : b < nb := by
  unfold fX11_tableAt at h
  split at h
  · cases h
  · split at h
    · cases h
    · obtain ⟨-, h⟩ := ckS h
      have h := Option.some.inj h
      split at h
      · have h := Option.some.inj h
        omega
      · cases h
set_option maxHeartbeats 4000000 in
set_option maxRecDepth 100000 in
theorem tX11_tableAt (l : Launch) (dC : Nat → ClassId) (dI : Nat → Nat → Nat) (cy : Nat → ClassId) (ad : Nat → Nat) (τ nb : Nat) (hτ : τ < nb) (σ : S2) (x : Int32) (sz : Nat) (r0 : Option Nat) (h : fX11_tableAt τ σ x = some r0) : Met l yX11_tableAt wsX11_tableAt ({ frames := 1, cells := 0, slots := 0, locals := 23 }) (va_Pc [.ref (ad 0), .int x] (wPre (dC, dI) cy (wG (cC cy ad τ) ad (182 + 6 * nb) σ) sz)) (va_Sq (fun r => r = r0.map (fun b => ad (182 + 6 * b)))) 0 0 (fun _ => False) := by
  refine Met.ofW (cc := cX11_tableAt) (maxL := 2) (ret := (some (.object "SeatsRound$Table"))) (by decide) rfl ?_
  intro p e s m args below meth c s₁ B hml hv
  obtain ⟨rfl, hsz, hP, hK, hD0, hN⟩ := hv
  have hx := B.exec
  have hb := B.bytes
  have hr := B.returns
  have hts := atoms_spec (ws := wsX11_tableAt) B.pre
  have hown : s.vm.findClass RX11 = some m.cls := findClass_of_methodNamed B.named
  have hlocks := B.notSynchronized
  subst hsz
  have hl := lv_entry ([.ref (ad 0), .int x]) (n := 2) (Nat.le_of_ble_eq_true rfl)
  rw [lg_entry_eq]
  generalize (lg_sl ([.ref (ad 0), .int x]) ++ List.replicate (2 - (lg_sl ([.ref (ad 0), .int x])).length) Slot.unset).toArray = ls at hl ⊢
  have hl : lv_has ls 2 [(0, .ref (ad 0)), (1, .int x)] := hl
  unfold fX11_tableAt at h
  refine lv_iload_n hx hb dX11_tableAt_0 rfl (lv_at hl 1 rfl) ?_
  refine lv_if_lt (tgt := 21) hx hb dX11_tableAt_1 (by decide) (fun c1 => ?_) (fun c1 => ?_)
  · have h := cdP c1 h
    refine lv_null hx hb dX11_tableAt_21 ?_
    exact W.aret (v := .null) hx hb hr (Or.inl ⟨_, rfl⟩) (Or.inl rfl) (fun t ht hW => ⟨none, rfl, by rw [← Option.some.inj h]; rfl, ht⟩) (fun q h => by cases h) dX11_tableAt_22
  · have h := cdN c1 h
    refine lv_iload_n hx hb dX11_tableAt_4 rfl (lv_at hl 1 rfl) ?_
    refine lv_aload_n hx hb dX11_tableAt_5 rfl (lv_at hl 0 rfl) ?_
    refine ux_get (D := (dC, dI)) (ci := 11) (v := .int (σ.1 0 6)) (C := RX11) (T := TX11) (M := 13) (fs := (oSR ad (σ.1 0))) hx hb hts (fun _ h9 => List.mem_cons_of_mem _ (List.mem_append_right _ h9)) hown hK hP 0 (Nat.lt_of_lt_of_le (Nat.le_of_ble_eq_true rfl : 0 < 182) (Nat.le_add_right _ _)) (cC_0 _ _ _ _ _) rfl 6 (by decide) (hts (.fieldLink RX11 52 "SeatsRound" "tableCount" "I") (List.mem_of_getElem? (i := 1) rfl)) (fun _ h9 => h9) rfl dX11_tableAt_6 ?_
    refine lv_icmp_ge (tgt := 21) hx hb dX11_tableAt_9 (by decide) (fun c2 => ?_) (fun c2 => ?_)
    · have h := cdP c2 h
      refine lv_null hx hb dX11_tableAt_21 ?_
      exact W.aret (v := .null) hx hb hr (Or.inl ⟨_, rfl⟩) (Or.inl rfl) (fun t ht hW => ⟨none, rfl, by rw [← Option.some.inj h]; rfl, ht⟩) (fun q h => by cases h) dX11_tableAt_22
    · have h := cdN c2 h
      obtain ⟨hin, h⟩ := ckS h
      refine lv_aload_n hx hb dX11_tableAt_12 rfl (lv_at hl 0 rfl) ?_
      refine ux_get (D := (dC, dI)) (ci := 11) (v := .ref (ad 42)) (C := RX11) (T := TX11) (M := 13) (fs := (oSR ad (σ.1 0))) hx hb hts (fun _ h9 => List.mem_cons_of_mem _ (List.mem_append_right _ h9)) hown hK hP 0 (Nat.lt_of_lt_of_le (Nat.le_of_ble_eq_true rfl : 0 < 182) (Nat.le_add_right _ _)) (cC_0 _ _ _ _ _) rfl 5 (by decide) (hts (.fieldLink RX11 48 "SeatsRound" "tables" "[LSeatsRound$Table;") (List.mem_of_getElem? (i := 2) rfl)) (fun _ h9 => h9) rfl dX11_tableAt_13 ?_
      refine lv_iload_n hx hb dX11_tableAt_16 rfl (lv_at hl 1 rfl) ?_
      refine va_aldq hx hb hK hP 42 8 (wG_of (Nat.lt_of_lt_of_le (Nat.le_of_ble_eq_true rfl : 42 < 182) (Nat.le_add_right _ _)) (cC_42 _ _ _ _ _)) rfl hin dX11_tableAt_17 ?_
      refine lv_goto (tgt := 22) hx hb dX11_tableAt_18 (by decide) ?_
      refine W.aret (v := va_rf (if x.toNatClampNeg < τ then some (ad (182 + 6 * (x.toNatClampNeg + 1))) else none)) hx hb hr (Or.inl ⟨_, rfl⟩) (va_rf_or _) (fun t ht hW => ⟨_, rfl, ?_, ht⟩) (fun q h => by cases h) dX11_tableAt_22
      rw [← Option.some.inj h]
      by_cases hc : x.toNatClampNeg < τ
      · rw [if_pos hc, if_pos hc]; rfl
      · rw [if_neg hc, if_neg hc]; rfl
section UQ
variable {p : Program} {l : Launch} {e : Env} {R : Room} {s : State} {m : MethodId} {args : Array Value} {below : List Frame} {meth : Method} {c : Code} {H : Heap} {locs : List Loc} {cells slots : Nat} {Q : State → Prop} {pc : Nat} {ls : Array Slot} {rest : List Value}
variable {cell : ux_F} {ad : Nat → Nat} {N : Nat} {σ : S2} {D : va_G} {A : Nat → Prop} {H0 : Heap} {st0 : List Value} {a : Array Value}
theorem ux_callqN (hr : va_Run p l e R s m args below meth c H locs cells slots 0 0 (F0 m pc ls st0) rest (va_Sq (fun r => r = (none : Option Nat).map (fun b => ad (182 + 6 * b))) a) (fun _ => False)) (kk : W p l e R s m args below meth c H locs cells slots Q (F0 m (pc + 3) ls (.null :: rest))) : W p l e R s m args below meth c H locs cells slots Q (F0 m pc ls st0) := by
  refine vz_callSq hr (fun r hw => ?_)
  subst hw
  exact kk
theorem ux_callqS {b : Nat} (hr : va_Run p l e R s m args below meth c H locs cells slots 0 0 (F0 m pc ls st0) rest (va_Sq (fun r => r = (some b).map (fun b => ad (182 + 6 * b))) a) (fun _ => False)) (kk : W p l e R s m args below meth c H locs cells slots Q (F0 m (pc + 3) ls (.ref (ad (182 + 6 * b)) :: rest))) : W p l e R s m args below meth c H locs cells slots Q (F0 m pc ls st0) := by
  refine vz_callSq hr (fun r hw => ?_)
  subst hw
  exact kk
end UQ
