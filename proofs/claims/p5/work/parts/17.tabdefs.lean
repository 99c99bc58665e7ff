def tabI (i : Nat) : Int32 := match i with | 2 => 1 | 3 => 1 | _ => 0
/-- a new table: its block as the constructor leaves it -/
def nT (σ : S2) (b : Nat) : S2 := (fun k => if k < 182 + 6 * b then σ.1 k else if k = 182 + 6 * b then tabI else if k < 182 + 6 * b + 6 then (fun _ => 0) else σ.1 k, σ.2)
def tabRest (τ : Nat) (σ : S2) (x2 : Int32) : Option (Int32 × Nat × S2) := bs (fX8_takeAll τ (τ + 1) 0 σ) (fun r1 σ2 => bs (fX8_seatAll τ (τ + 1) σ2 x2) (fun r4 σ5 => ck 10 (σ5.1 0 6) (if Int32.toNatClampNeg (σ5.1 0 6) = τ then nm (ux_wI σ5 0 6 ((σ5.1 0 6) + 1)) (fun σ7 => some ((σ7.1 0 6) - 1, 1, σ7)) else none)))
def tabNew (τ : Nat) (σ : S2) (x2 : Int32) : Option (Int32 × Nat × S2) := tabRest τ (nT σ (τ + 1)) x2
def fX11_table_0 (τ : Nat)  (σ : S2) (x1 : Int32) (x2 : Int32) : Option (Int32 × Nat × S2) := nm ((1 <<< ((σ.1 7 5) &&& 31)) - 1) (fun v1 => if x1 = 0 then some ((-1), 0, σ) else if (x1 &&& (v1 ^^^ (-1))) = 0 then if (σ.1 0 6) < 10 then bs (fX8_takeMembers τ 0 σ x1) (fun r2 σ3 => bs (fX8_takeLaw τ 0 2 80 σ3 (σ3.1 1 1)) (fun r5 σ6 => nm (ux_wI σ6 1 1 0) (fun σ8 => bs (fX3_workOut τ σ8) (fun r9 σ10 => if r9 = (-1) then tabNew τ σ10 x2 else some ((-100) - r9, 0, σ10))))) else some ((-3), 0, σ) else some ((-1), 0, σ))
def fX11_table (τ : Nat) (σ : S2) (a1 : Int32) (a2 : Int32) : Option (Int32 × Nat × S2) := fX11_table_0 τ σ a1 a2
