def wLaw (cy : Nat → ClassId) (q1 q2 : Nat) (u v : (Nat → Nat) × (Nat → Nat)) : va_W := [(q1, .inr (11, [.ref (u.1 0), .ref (u.1 1), .ref (u.1 2), .ref (u.1 3), .ref (u.1 4), .ref (u.1 5), .int 0, .ref (u.1 6), .ref (u.1 7), .ref (u.1 8), .ref (u.1 9), .ref (u.1 10), .ref (u.1 11)])), ((u.1 0), .inr (9, [.ref (u.1 12), .int 0])), ((u.1 12), .inl (cy 1, 80, .inl (fun _ => 0))), ((u.1 1), .inr (4, [.ref (u.1 13), .ref (u.1 14), .ref (u.1 15), .int 0])), ((u.1 2), .inr (2, [.ref (u.1 16), .ref (u.1 17), .ref (u.1 18), .ref (u.1 19), .ref (u.1 20), .int 0])), ((u.1 16), .inl (cy 0, 12, .inl (fun _ => 0))), ((u.1 17), .inl (cy 0, 12, .inl (fun _ => 0))), ((u.1 18), .inl (cy 0, 12, .inl (fun _ => 0))), ((u.1 19), .inl (cy 0, 12, .inl (fun _ => 0))), ((u.1 5), .inl (cy 8, 10, .inr (.inr (.inr (.inr (fun _ => none)))))), ((u.1 7), .inr (6, [.ref (u.1 21), .ref (u.1 22), .ref (u.1 23), .ref (u.1 24), .ref (u.1 25), .ref (u.1 26), .ref (u.1 27), .ref (u.1 28), .int 0, .ref (u.1 2), .ref (u.1 1), .ref (u.1 4)])), ((u.1 8), .inr (5, [.ref (u.1 29), .int 0, .ref (u.1 30), .int 0, .ref (u.1 31), .ref (u.1 32), .ref (u.1 2), .ref (u.1 1), .ref (u.1 4), .ref (u.1 3)])), ((u.1 9), .inr (10, [.ref (u.1 33), .int 0, .int (-1), .ref (u.1 34), .ref (u.1 1)])), ((u.1 33), .inl (cy 0, 6, .inl (fun _ => 0))), ((u.1 10), .inr (0, [.ref (u.1 35), .int 0, .int 0, .int 0, .int 0])), ((u.1 11), .inr (7, [.ref (u.1 36), .ref (u.1 37), .ref (u.1 38), .ref (u.1 39)])), ((u.1 38), .inl (cy 0, 6, .inl (fun _ => 0))), ((u.1 39), .inl (cy 7, 6, .inr (.inr (.inr (.inr (fun i => if i < 6 then some (u.2 i) else none)))))), ((u.2 0), .inl (cy 4, 60, .inr (.inl (fun _ => 0)))), ((u.2 1), .inl (cy 4, 60, .inr (.inl (fun _ => 0)))), ((u.2 2), .inl (cy 4, 60, .inr (.inl (fun _ => 0)))), ((u.2 3), .inl (cy 4, 60, .inr (.inl (fun _ => 0)))), ((u.2 4), .inl (cy 4, 60, .inr (.inl (fun _ => 0)))), ((u.2 5), .inl (cy 4, 60, .inr (.inl (fun _ => 0)))), ((u.1 36), .inl (cy 0, 6, .inl (fun _ => (-1)))), ((u.1 37), .inl (cy 0, 6, .inl (fun _ => (-1)))), (q2, .inr (12, [.int 0, .ref (v.1 0), .ref (v.1 1), .int 0, .ref (v.1 2), .ref (v.1 3), .ref (v.1 4), .ref (v.1 5), .ref (v.1 6), .int 0, .ref (v.1 7), .ref (v.1 8), .ref (v.1 9), .ref (v.1 10), .ref (v.1 11), .ref (v.1 12), .ref (v.1 13), .ref (v.1 14), .ref (v.1 15), .ref (v.1 16), .ref (v.1 17), .ref (v.1 18), .int 0, .ref (v.1 19), .ref (v.1 20), .ref (v.1 21), .ref (v.1 22), .ref (v.1 23), .ref (v.1 24), .int 0, .int 0, .ref (v.1 25), .int 0, .ref (v.1 26), .int 0, .ref (v.1 27), .int (-1), .ref (v.1 28), .int 0, .ref (v.1 29), .ref (v.1 30), .ref (v.1 31), .ref (v.1 32), .ref (v.1 33), .int 0, .int 0, .int 0, .int 0, .int 0, .int 0, .int 0, .int 0, .ref (v.1 34), .int 0, .ref (v.1 35), .int 0, .ref (v.1 36), .ref (v.1 37), .ref (v.1 38)])), ((v.1 2), .inl (cy 0, 12, .inl (fun _ => 0))), ((v.1 3), .inl (cy 0, 12, .inl (fun _ => 0))), ((v.1 18), .inl (cy 0, 80, .inl (fun _ => 0))), ((v.1 27), .inl (cy 0, 6, .inl (fun _ => 0))), ((v.1 29), .inl (cy 0, 6, .inl (fun _ => (-1)))), ((v.1 30), .inl (cy 0, 6, .inl (fun _ => (-1)))), ((v.1 31), .inl (cy 0, 6, .inl (fun _ => 0))), ((v.1 32), .inl (cy 4, 360, .inr (.inl (fun _ => 0))))]
section LAW
variable {p : Program} {l : Launch} {e : Env} {s : State} {m : MethodId} {below : List Frame} {meth : Method} {c : Code} {A : Nat → Prop} {b : Nat} {xs : Nat → Int32} {H : Heap} {locs : List Loc} {ls : Array Slot} {cells slots L : Nat}
theorem law_out (C0 : lw_At p s m meth c b L xs) (hAe : A = fun q : Nat => s.heap.size ≤ q) (hS : va_S A s.heap H locs) (hc : cells ≤ 600000) (hs : slots ≤ 7302250) : W p l e room_1 s m #[Value.ref b] below meth c H locs cells slots (lw_Z below #[Value.ref b] s) (F0 m 1642 ls []) := by
  obtain ⟨hx, hb, hr, hml, hown, hts, hX, hbl, hlocks, hgv⟩ := C0
  refine lv_iconst (v := 1) hx hb dL_law_1642 (by decide) ?_
  refine va_forget (fun q hq => by have h9 := hS.2.2 q hq; rw [hAe] at h9; exact h9) ?_
  refine W.widen (k := 600000) (n := 7302250) hc hs ?_
  exact lw_ret hx hb hr hlocks dL_law_1643
theorem law_tail (C0 : lw_At p s m meth c b 6 xs) (hAe : A = fun q : Nat => s.heap.size ≤ q) (hS : va_S A s.heap H locs) {q1 q2 : Nat} (hl : lv_has ls 4 [(3, .int 0), (2, .ref q2), (1, .ref q1), (0, .ref b)]) (hc : cells ≤ 600000) (hs : slots ≤ 7302250) : W p l e room_1 s m #[Value.ref b] below meth c H locs cells slots (lw_Z below #[Value.ref b] s) (F0 m 1636 ls []) := by
  obtain ⟨hx, hb, hr, hml, hown, hts, hX, hbl, hlocks, hgv⟩ := id C0
  have hbA : ¬ A b := by rw [hAe]; exact Nat.not_le.mpr hbl
  refine lv_iinc (v := 6) (lv' := [(3, .int 6), (2, .ref q2), (1, .ref q1), (0, .ref b)]) hx hb dL_law_1636 hl (k := 0) rfl (by decide) (by decide) rfl (fun ls hl => ?_)
  refine lv_goto (tgt := 18) hx hb dL_law_1639 (by decide) ?_
  refine lv_iload_n hx hb dL_law_18 rfl (lv_at hl 0 rfl) ?_
  refine lv_aload_n hx hb dL_law_19 rfl (lv_at hl 3 rfl) ?_
  refine va_slen hx hb hX hbl hbA hS dL_law_20 ?_
  refine lv_bipush (v := 6) hx hb dL_law_21 (by decide) ?_
  refine lv_isub hx hb dL_law_23 ?_
  refine lv_icmp_gt (tgt := 1642) hx hb dL_law_24 (by decide) (fun _ => ?_) (fun c1 => absurd (by decide) c1)
  exact law_out C0 hAe hS hc hs
theorem vz_feed (x : Int32) : (x.toInt < 1 ∨ 4 < x.toInt) ∨ x = 1 ∨ x = 2 ∨ x = 3 ∨ x = 4 := by
  rcases vz_sw 4 x with ⟨j, hj, e⟩ | h
  · match j, hj, e with
    | 0, _, e => exact Or.inl (Or.inl (by rw [e]; decide))
    | 1, _, e => exact Or.inr (Or.inl e)
    | 2, _, e => exact Or.inr (Or.inr (Or.inl e))
    | 3, _, e => exact Or.inr (Or.inr (Or.inr (Or.inl e)))
    | 4, _, e => exact Or.inr (Or.inr (Or.inr (Or.inr e)))
    | j + 5, hj, _ => exact absurd hj (by omega)
  · exact Or.inl (by omega)
theorem vz_row (x : Int32) : (¬ (0 ≤ x.toInt ∧ x.toInt ≤ 5)) ∨ x = 0 ∨ x = 1 ∨ x = 2 ∨ x = 3 ∨ x = 4 ∨ x = 5 := by
  rcases vz_sw 5 x with ⟨j, hj, e⟩ | h
  · match j, hj, e with
    | 0, _, e => exact Or.inr (Or.inl e)
    | 1, _, e => exact Or.inr (Or.inr (Or.inl e))
    | 2, _, e => exact Or.inr (Or.inr (Or.inr (Or.inl e)))
    | 3, _, e => exact Or.inr (Or.inr (Or.inr (Or.inr (Or.inl e))))
    | 4, _, e => exact Or.inr (Or.inr (Or.inr (Or.inr (Or.inr (Or.inl e)))))
    | 5, _, e => exact Or.inr (Or.inr (Or.inr (Or.inr (Or.inr (Or.inr e)))))
    | j + 6, hj, _ => exact absurd hj (by omega)
  · exact Or.inl (by omega)
end LAW
