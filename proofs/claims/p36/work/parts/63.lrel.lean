def RelL (_ _ : S2) : Prop := True
theorem relL0 : RelL stC stM := trivial
/-- what row answers, by its arguments alone -/
def spRow (a1 a2 a3 : Int32) : Int := if ¬ (0 ≤ a1.toInt ∧ a1.toInt ≤ 5) ∨ ¬ (0 ≤ a2.toInt ∧ a2.toInt ≤ 4) ∨ 60 < a3.toInt then -1 else if a3.toInt < 0 then -14 else 1
theorem shelfC {τ : Nat} {σ : S2} {a : Int32} : Ok (fun r => r.toInt = 0 ↔ ¬ (0 ≤ a.toInt ∧ a.toInt ≤ 5)) (fX11_isShelf τ σ a) := by
  have z0 : (0 : Int32).toInt = 0 := rfl
  have one : (1 : Int32).toInt = 1 := rfl
  have e6 : (6 : Int32).toInt = 6 := rfl
  unfold fX11_isShelf fX11_isShelf_0
  refine ok_lt (fun h => ok_some ?_) (fun h => ok_le (fun h2 => ok_some ?_) (fun h2 => ok_some ?_))
  · rw [z0] at h ⊢; omega
  · rw [z0] at h ⊢; omega
  · rw [one]; rw [z0] at h; omega
theorem inM {σ : S2} {a b c : Int32} : Ok (fun r => r.toInt = 0 ↔ ¬ (b.toInt ≤ a.toInt ∧ a.toInt ≤ c.toInt)) (fX12_in σ a b c) := by
  have z0 : (0 : Int32).toInt = 0 := rfl
  have one : (1 : Int32).toInt = 1 := rfl
  unfold fX12_in fX12_in_0
  refine ok_lt (fun h => ok_some ?_) (fun h => ok_lt (fun h2 => ok_some ?_) (fun h2 => ok_some ?_))
  · rw [z0]; omega
  · rw [z0]; omega
  · rw [one]; omega
theorem rowC {τ : Nat} {σ : S2} {a1 a2 a3 : Int32} (hI : IvC 0 τ σ) : Ok (fun z => z.1.toInt = spRow a1 a2 a3) (fX11_row τ σ a1 a2 a3) := by
  have z0 : (0 : Int32).toInt = 0 := rfl
  have e4 : (4 : Int32).toInt = 4 := rfl
  have e60 : (60 : Int32).toInt = 60 := rfl
  have m1 : ((-1 : Int32)).toInt = -1 := by decide
  have m14 : ((-14 : Int32)).toInt = -14 := by decide
  have one : (1 : Int32).toInt = 1 := rfl
  unfold fX11_row fX11_row_0
  refine ok_bi shelfC (fun r1 h1 => ?_)
  refine ok_eq (fun h => ok_some ?_) (fun h => ?_)
  · show ((-1 : Int32)).toInt = _
    rw [m1]; unfold spRow; rw [if_pos (Or.inl (h1.mp (by rw [h, z0])))]
  have hs : 0 ≤ a1.toInt ∧ a1.toInt ≤ 5 := by omega
  refine ok_lt (fun h2 => ok_some ?_) (fun h2 => ?_)
  · show ((-1 : Int32)).toInt = _
    rw [m1]; unfold spRow; rw [if_pos (by omega)]
  refine ok_lt (fun h3 => ok_some ?_) (fun h3 => ?_)
  · show ((-1 : Int32)).toInt = _
    rw [m1]; unfold spRow; rw [if_pos (by omega)]
  refine ok_le (fun h4 => ?_) (fun h4 => ok_some ?_)
  · refine ok_le (fun h5 => ?_) (fun h5 => ok_some ?_)
    · refine ok_bs (sX7_holdRow τ σ a1 a2 a3 hI (by omega) (by omega) (by omega) (by omega) (by omega) (by omega)) (fun r3 σ4 _ => ok_some ?_)
      show (1 : Int32).toInt = _
      rw [one]; unfold spRow; rw [if_neg (by omega), if_neg (by omega)]
    · show ((-14 : Int32)).toInt = _
      rw [m14]; unfold spRow; rw [if_neg (by omega), if_pos (by omega)]
  · show ((-1 : Int32)).toInt = _
    rw [m1]; unfold spRow; rw [if_pos (by omega)]
theorem row55 : ∀ (n : Nat) (σ : S2) (x1 x4 : Int32) (z : Int32 × S2), fX12_row_55 n σ x1 x4 = some z → z.1 = 1 := by
  intro n
  induction n with
  | zero => intro σ x1 x4 z h; unfold fX12_row_55 at h; cases h
  | succ n ih =>
    intro σ x1 x4 z h
    unfold fX12_row_55 at h
    split at h
    · cases h; rfl
    · obtain ⟨_, h⟩ := ckS h
      exact ih _ _ _ _ h
theorem ck_bd {β : Type} {n : Nat} {i : Int32} {K : Option β} {z : β} (h : ck n i K = some z) : K = some z := (ckS h).2
theorem rowM {σ : S2} {a1 a2 a3 : Int32} {z : Int32 × S2} (h : fX12_row σ a1 a2 a3 = some z) : z.1.toInt = spRow a1 a2 a3 := by
  have z0 : (0 : Int32).toInt = 0 := rfl
  have e4 : (4 : Int32).toInt = 4 := rfl
  have e5 : (5 : Int32).toInt = 5 := rfl
  have e60 : (60 : Int32).toInt = 60 := rfl
  have m1 : ((-1 : Int32)).toInt = -1 := by decide
  have m14 : ((-14 : Int32)).toInt = -14 := by decide
  have one : (1 : Int32).toInt = 1 := rfl
  unfold fX12_row fX12_row_0 at h
  obtain ⟨r3, h3, h⟩ := biS h
  have i3 : r3.toInt = 0 ↔ ¬ (0 ≤ a1.toInt ∧ a1.toInt ≤ 5) := by
    unfold fX12_isShelf fX12_isShelf_0 at h3
    obtain ⟨r9, h9, h3⟩ := biS h3
    obtain ⟨y, hy, q⟩ := inM (σ := σ) (a := a1) (b := 0) (c := 5)
    rw [h9] at hy
    cases hy
    rw [z0, e5] at q
    obtain ⟨_, h3⟩ := zbS h3
    cases h3; exact q
  split at h
  · rename_i c
    cases h
    show ((-1 : Int32)).toInt = _
    rw [m1]; unfold spRow; rw [if_pos (Or.inl (i3.mp (by rw [c]; rfl)))]
  · rename_i c
    have c3 : r3.toInt ≠ 0 := fun q => c (Int32.toInt_inj.mp q)
    obtain ⟨r5, h5, h⟩ := biS h
    have i5 : r5.toInt = 0 ↔ ¬ (0 ≤ a2.toInt ∧ a2.toInt ≤ 4) := by
      obtain ⟨y, hy, q⟩ := inM (σ := σ) (a := a2) (b := 0) (c := 4)
      rw [h5] at hy
      cases hy
      rw [z0, e4] at q; exact q
    split at h
    · rename_i c
      cases h
      show ((-1 : Int32)).toInt = _
      rw [m1]; unfold spRow; rw [if_pos (Or.inr (Or.inl (i5.mp (by rw [c]; rfl))))]
    · rename_i c
      have c5 : r5.toInt ≠ 0 := fun q => c (Int32.toInt_inj.mp q)
      split at h
      · rename_i c6
        have c6 := Int32.le_iff_toInt_le.mp c6
        split at h
        · rename_i c7
          have c7 := Int32.le_iff_toInt_le.mp c7
          have h := ck_bd h
          have h := ck_bd (show ck 6 a1 _ = some z from h)
          have h := ck_bd (show ck 6 a1 _ = some z from h)
          have e := row55 _ _ _ _ z (show fX12_row_55 FU _ a1 0 = some z from h)
          rw [e, one]; unfold spRow; rw [if_neg (by omega), if_neg (by omega)]
        · rename_i c7
          have c7 : ¬ (0 : Int32).toInt ≤ a3.toInt := fun q => c7 (Int32.le_iff_toInt_le.mpr q)
          cases h
          show ((-14 : Int32)).toInt = _
          rw [m14]; unfold spRow; rw [if_neg (by omega), if_pos (by omega)]
      · rename_i c6
        have c6 : ¬ a3.toInt ≤ (60 : Int32).toInt := fun q => c6 (Int32.le_iff_toInt_le.mpr q)
        cases h
        show ((-1 : Int32)).toInt = _
        rw [m1]; unfold spRow; rw [if_pos (by omega)]
theorem row_eq {τ : Nat} {σ σm σ9 ρ9 : S2} {a1 a2 a3 r q : Int32} (hI : IvC 0 τ σ) (h : fX11_row τ σ a1 a2 a3 = some (r, σ9)) (h2 : fX12_row σm a1 a2 a3 = some (q, ρ9)) : r = q := by
  obtain ⟨y, hy, e⟩ := rowC (a1 := a1) (a2 := a2) (a3 := a3) hI
  rw [h] at hy
  cases hy
  have e2 := rowM h2
  exact Int32.toInt_inj.mp (e.trans e2.symm)
