theorem relA0 : RelA stC stM := by
  refine ⟨⟨rfl, fun i => rfl, fun i _ => rfl, fun i => rfl, fun i => rfl⟩, fun i => rfl, ⟨rfl, fun i => rfl⟩, fun i hi => ⟨rfl, rfl, fun h => absurd rfl h, by show ((-1 : Int32)).toInt < (0 : Int32).toInt; decide⟩, fun s i hs hi => rfl⟩
theorem lg_same {x y : Int64} (h : x = y) : lg_cmp x y = 0 := by
  subst h
  unfold lg_cmp
  rw [if_neg (fun q => by have := Int64.lt_iff_toInt_lt.mp q; omega), if_pos rfl]
def RelL (σ ρ : S2) : Prop := RelA σ ρ
theorem relL0 : RelL stC stM := relA0
