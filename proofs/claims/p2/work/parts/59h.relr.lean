section WORK
variable {τ : Nat} {t : Int32}
/-- both readers of a table's law, from their heads on -/
theorem work_eq {σ ρ σ' ρ1 ρ' : S2} {r q : Int32} {u : Unit} (hD : DR t σ ρ) (hl : ρ.1 13 t.toNatClampNeg = σ.1 182 6) (hb : 0 ≤ (σ.1 182 6).toInt ∧ (σ.1 182 6).toInt ≤ 80) (hw : ∀ i : Nat, (i : Int) < (σ.1 182 6).toInt → ρ.1 14 (80 * t.toNatClampNeg + i) = σ.1 185 i &&& 255) (h : fX3_workOut τ σ = some (r, σ')) (h2 : fX12_numbers ρ t = some (u, ρ1)) (h3 : fX12_reads ρ1 t = some (q, ρ')) : (r = -1 ∧ q = -1 ∧ PC t σ' ρ') ∨ (r ≠ -1 ∧ q = ρ'.1 0 45) := by
  have z0 := i_0
  obtain ⟨⟨t0, t1⟩, d1, ⟨d2, d3⟩, ⟨d4, d5⟩, d6⟩ := id hD
  have m4 : (σ.1 182 0).toInt ≤ 4095 := by
    have : 2 ^ (ρ.1 0 3).toInt.toNat ≤ 2 ^ 12 := Nat.pow_le_pow_right (by decide) (by omega)
    have e : 2 ^ 12 = 4096 := by decide
    omega
  unfold fX3_workOut fX3_workOut_0 at h
  have h : bs (fX3_look τ (ux_wI (ux_wI (ux_wI (ux_I σ 13 (upd (σ.1 13) 0 1)) 13 1 (σ.1 182 6)) 13 2 0) 13 3 (-1))) (fun _ σ15 => fX3_workOut_52 τ FU (ux_wI (ux_wI (ux_wI σ15 182 2 2) 182 3 1) 182 4 0) 0 0) = some (r, σ') := h
  obtain ⟨u1, s6, f6, h⟩ := bsS h
  unfold fX3_look fX3_look_0 at f6
  obtain ⟨r11, f11, f6⟩ := biS f6
  have e11 : r11 = Int32.ofNat (popN (σ.1 182 0).toInt.toNat 12) := by
    have w : fJ6_bitCount_0f7a4 τ (ux_wI (ux_wI (ux_wI (ux_I σ 13 (upd (σ.1 13) 0 1)) 13 1 (σ.1 182 6)) 13 2 0) 13 3 (-1)) (σ.1 182 0) = some r11 := f11
    rw [bitCount_eq d2 m4] at w
    exact (Option.some.inj w).symm
  have f6 : fX3_look_26 τ FU (ux_wI (ux_wI (ux_wI (ux_wI (ux_wI (ux_wI (ux_I σ 13 (upd (σ.1 13) 0 1)) 13 1 (σ.1 182 6)) 13 2 0) 13 3 (-1)) 13 4 r11) 13 6 0) 13 7 0) 0 0 = some (u1, s6) := f6
  have h2 : fX12_numbers_24 FU (ux_wI (ux_wI (ux_wI (ux_wI ρ 0 48 0) 0 49 0) 0 50 0) 0 51 0) t 0 0 = some (u, ρ1) := h2
  have hL : LK t 0 0 (ux_wI (ux_wI (ux_wI (ux_wI (ux_wI (ux_wI (ux_I σ 13 (upd (σ.1 13) 0 1)) 13 1 (σ.1 182 6)) 13 2 0) 13 3 (-1)) 13 4 r11) 13 6 0) 13 7 0) (ux_wI (ux_wI (ux_wI (ux_wI ρ 0 48 0) 0 49 0) 0 50 0) 0 51 0) := ⟨rfl, rfl, rfl, by decide +kernel, by decide, by decide⟩
  obtain ⟨a1, a2, a3, a4, a5, a6, a7, a8⟩ := look_lp FU FU _ _ s6 ρ1 0 0 u1 u hD hL (by decide) (by show (0 : Int32).toInt ≤ (ρ.1 0 3).toInt; omega) f6 h2
  unfold fX12_reads fX12_reads_0 at h3
  obtain ⟨_, h3⟩ := ckS h3
  obtain ⟨_, h3⟩ := ckS h3
  obtain ⟨_, h3⟩ := ckS h3
  have h3 : fX12_reads_45 FU (ux_wI (ux_wI (ux_wI (ux_wI (ux_wI (ux_wI (ux_wI ρ1 0 44 t) 0 45 0) 0 46 0) 0 47 0) 10 t.toNatClampNeg 2) 11 t.toNatClampNeg 1) 12 t.toNatClampNeg 0) t 0 1 = some (q, ρ') := h3
  have e13 : ∀ i : Nat, ρ1.1 13 i = ρ.1 13 i := fun i => a7 13 i (by decide)
  have e14 : ∀ i : Nat, ρ1.1 14 i = ρ.1 14 i := fun i => a7 14 i (by decide)
  have e1 : s6.1 13 1 = σ.1 182 6 := a6 1 (by decide)
  have e0 : s6.1 13 0 = 1 := a6 0 (by decide)
  have e2 : s6.1 13 2 = 0 := a6 2 (by decide)
  have e3 : s6.1 13 3 = -1 := a6 3 (by decide)
  have e4 : s6.1 13 4 = r11 := a6 4 (by decide)
  have e185 : ∀ i : Nat, s6.1 185 i = σ.1 185 i := fun i => a5 185 i (by decide)
  have hB : PB t (ux_wI (ux_wI (ux_wI s6 182 2 2) 182 3 1) 182 4 0) (ux_wI (ux_wI (ux_wI (ux_wI (ux_wI (ux_wI (ux_wI ρ1 0 44 t) 0 45 0) 0 46 0) 0 47 0) 10 t.toNatClampNeg 2) 11 t.toNatClampNeg 1) 12 t.toNatClampNeg 0) := by
    refine ⟨e0, rfl, ⟨t0, t1⟩, ?_, ?_, fun i hi => ?_, ?_, ?_, ?_, ?_⟩
    · show ρ1.1 13 t.toNatClampNeg = s6.1 13 1
      rw [e13, e1, hl]
    · show 0 ≤ (s6.1 13 1).toInt ∧ (s6.1 13 1).toInt ≤ 80
      rw [e1]; exact hb
    · have hi : (i : Int) < (s6.1 13 1).toInt := hi
      rw [e1] at hi
      show ρ1.1 14 (80 * t.toNatClampNeg + i) = s6.1 185 i &&& 255
      rw [e14, e185]; exact hw i hi
    · show ρ1.1 0 48 = s6.1 13 4
      rw [e4, e11]; exact a3
    · exact a4
    · exact a1.symm
    · exact a2.symm
  have hN : PN 0 (ux_wI (ux_wI (ux_wI s6 182 2 2) 182 3 1) 182 4 0) (ux_wI (ux_wI (ux_wI (ux_wI (ux_wI (ux_wI (ux_wI ρ1 0 44 t) 0 45 0) 0 46 0) 0 47 0) 10 t.toNatClampNeg 2) 11 t.toNatClampNeg 1) 12 t.toNatClampNeg 0) := by
    refine ⟨e3, rfl, ?_, rfl, ?_, ?_⟩
    · show (0 : Int32) = s6.1 13 2
      exact e2.symm
    · show 0 ≤ (s6.1 13 2).toInt
      rw [e2, z0]; omega
    · show (s6.1 13 2).toInt ≤ (s6.1 13 1).toInt
      rw [e2, e1, z0]; omega
  have hC : PC t (ux_wI (ux_wI (ux_wI s6 182 2 2) 182 3 1) 182 4 0) (ux_wI (ux_wI (ux_wI (ux_wI (ux_wI (ux_wI (ux_wI ρ1 0 44 t) 0 45 0) 0 46 0) 0 47 0) 10 t.toNatClampNeg 2) 11 t.toNatClampNeg 1) 12 t.toNatClampNeg 0) := by
    refine ⟨?_, ?_, ?_⟩
    · show (if t.toNatClampNeg = t.toNatClampNeg then (2 : Int32) else ρ1.1 10 t.toNatClampNeg) = 2
      rw [if_pos rfl]
    · show (if t.toNatClampNeg = t.toNatClampNeg then (1 : Int32) else ρ1.1 11 t.toNatClampNeg) = 1
      rw [if_pos rfl]
    · show (if t.toNatClampNeg = t.toNatClampNeg then (0 : Int32) else ρ1.1 12 t.toNatClampNeg) = 0
      rw [if_pos rfl]
  exact work_lp FU FU _ _ σ' ρ' 0 0 r q hB hN hC (Or.inl ⟨rfl, rfl⟩) h h3
end WORK
