theorem ux_tabB {τ nb : Nat} (hτ : τ < nb) {σ : S2} {x : Int32} {b : Nat} (h : fX11_tableAt τ σ x = some (some b)) : b < nb := by sorry
set_option maxHeartbeats 4000000 in
set_option maxRecDepth 100000 in
theorem tX11_tableAt (l : Launch) (dC : Nat → ClassId) (dI : Nat → Nat → Nat) (cy : Nat → ClassId) (ad : Nat → Nat) (τ nb : Nat) (hτ : τ < nb) (σ : S2) (x : Int32) (sz : Nat) (r0 : Option Nat) (h : fX11_tableAt τ σ x = some r0) : Met l yX11_tableAt wsX11_tableAt ({ frames := 1, cells := 0, slots := 0, locals := 23 }) (va_Pc [.ref (ad 0), .int x] (wPre (dC, dI) cy (wG (cC cy ad τ) ad (182 + 6 * nb) σ) sz)) (va_Sq (fun r => r = r0.map (fun b => ad (182 + 6 * b)))) 0 0 (fun _ => False) := by sorry
section UQ
variable {p : Program} {l : Launch} {e : Env} {R : Room} {s : State} {m : MethodId} {args : Array Value} {below : List Frame} {meth : Method} {c : Code} {H : Heap} {locs : List Loc} {cells slots : Nat} {Q : State → Prop} {pc : Nat} {ls : Array Slot} {rest : List Value}
variable {cell : ux_F} {ad : Nat → Nat} {N : Nat} {σ : S2} {D : va_G} {A : Nat → Prop} {H0 : Heap} {st0 : List Value} {a : Array Value}
theorem ux_callqN (hr : va_Run p l e R s m args below meth c H locs cells slots 0 0 (F0 m pc ls st0) rest (va_Sq (fun r => r = (none : Option Nat).map (fun b => ad (182 + 6 * b))) a) (fun _ => False)) (kk : W p l e R s m args below meth c H locs cells slots Q (F0 m (pc + 3) ls (.null :: rest))) : W p l e R s m args below meth c H locs cells slots Q (F0 m pc ls st0) := by sorry
theorem ux_callqS {b : Nat} (hr : va_Run p l e R s m args below meth c H locs cells slots 0 0 (F0 m pc ls st0) rest (va_Sq (fun r => r = (some b).map (fun b => ad (182 + 6 * b))) a) (fun _ => False)) (kk : W p l e R s m args below meth c H locs cells slots Q (F0 m (pc + 3) ls (.ref (ad (182 + 6 * b)) :: rest))) : W p l e R s m args below meth c H locs cells slots Q (F0 m pc ls st0) := by sorry
end UQ

