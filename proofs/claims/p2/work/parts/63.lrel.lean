theorem relA0 : RelA stC stM := by
  refine ⟨⟨rfl, fun i => rfl, fun i _ => rfl, fun i => rfl, fun i => rfl⟩, fun i => rfl, ⟨rfl, fun i => rfl⟩, fun i hi => ⟨rfl, rfl, fun h => absurd rfl h, by show ((-1 : Int32)).toInt < (0 : Int32).toInt; decide⟩, fun s i hs hi => rfl⟩
theorem relB0 : RelB stC stM := by
  refine ⟨relA0, ⟨rfl, fun i => by show (0 : Int32) = 0 &&& 255; decide⟩, ⟨rfl, fun n hn => absurd hn (by show ¬ (n : Int) < (0 : Int32).toInt; rw [i_0]; omega)⟩, rfl, fun i hi => ⟨fun w => absurd w (by show ¬ (i : Int) < (0 : Int32).toInt; rw [i_0]; omega), fun _ => ?_⟩, ⟨rfl, fun i hi => absurd hi (by show ¬ (i : Int) < (0 : Int32).toInt; rw [i_0]; omega)⟩, fun s i hs hi c => absurd c (by show ¬ (-1 : Int32) = 0; decide)⟩
  rfl
theorem lg_same {x y : Int64} (h : x = y) : lg_cmp x y = 0 := by
  subst h
  unfold lg_cmp
  rw [if_neg (fun q => by have := Int64.lt_iff_toInt_lt.mp q; omega), if_pos rfl]
def RelL (σ ρ : S2) : Prop := RelB σ ρ
theorem relL0 : RelL stC stM := relB0
