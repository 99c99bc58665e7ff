section WORK
variable {τ : Nat} {t : Int32}
/-- both readers of a table's law, from their heads on -/
theorem work_eq {σ ρ σ' ρ1 ρ' : S2} {r q : Int32} {u : Unit} (hD : DR t σ ρ) (hl : ρ.1 13 t.toNatClampNeg = σ.1 182 6) (hb : 0 ≤ (σ.1 182 6).toInt ∧ (σ.1 182 6).toInt ≤ 80) (hw : ∀ i : Nat, (i : Int) < (σ.1 182 6).toInt → ρ.1 14 (80 * t.toNatClampNeg + i) = σ.1 185 i &&& 255) (h : fX3_workOut τ σ = some (r, σ')) (h2 : fX12_numbers ρ t = some (u, ρ1)) (h3 : fX12_reads ρ1 t = some (q, ρ')) : (r = -1 ∧ q = -1 ∧ PC t σ' ρ') ∨ (r ≠ -1 ∧ q = ρ'.1 0 45) := by
  have z0 := i_0
  obtain ⟨⟨t0, t1⟩, d1, ⟨d2, d3⟩, ⟨d4, d5⟩, d6⟩ := id hD
  have m4 : (σ.1 182 0).toInt ≤ 4095 := by
    have : 2 ^ (ρ.1 0 3).toInt.toNat ≤ 2 ^ 12 := Nat.pow_le_pow_right (by decide) (by omega)
    have e : 2 ^ 12 = 4096 := by decide
    omega
  unfold fX3_workOut fX3_workOut_0 at h
  have h : bs (fX3_look τ (ux_wI (ux_wI (ux_wI (ux_I σ 13 (upd (σ.1 13) 0 1)) 13 1 (σ.1 182 6)) 13 2 0) 13 3 (-1))) (fun _ σ15 => fX3_workOut_52 τ FU (ux_wI (ux_wI (ux_wI σ15 182 2 2) 182 3 1) 182 4 0) 0 0) = some (r, σ') := h
  have S0 : (ux_wI (ux_wI (ux_wI (ux_I σ 13 (upd (σ.1 13) 0 1)) 13 1 (σ.1 182 6)) 13 2 0) 13 3 (-1)).1 13 0 = 1 := by
    rw [wI_i _ _ _ (by decide), wI_i _ _ _ (by decide), wI_i _ _ _ (by decide)]
    show (if 13 = 13 then upd (σ.1 13) 0 1 else σ.1 13) 0 = 1
    rw [if_pos rfl]; exact if_pos rfl
  have S1 : (ux_wI (ux_wI (ux_wI (ux_I σ 13 (upd (σ.1 13) 0 1)) 13 1 (σ.1 182 6)) 13 2 0) 13 3 (-1)).1 13 1 = σ.1 182 6 := by
    rw [wI_i _ _ _ (by decide), wI_i _ _ _ (by decide), wI_eq]
  have S2' : (ux_wI (ux_wI (ux_wI (ux_I σ 13 (upd (σ.1 13) 0 1)) 13 1 (σ.1 182 6)) 13 2 0) 13 3 (-1)).1 13 2 = 0 := by
    rw [wI_i _ _ _ (by decide), wI_eq]
  have S3 : (ux_wI (ux_wI (ux_wI (ux_I σ 13 (upd (σ.1 13) 0 1)) 13 1 (σ.1 182 6)) 13 2 0) 13 3 (-1)).1 13 3 = -1 := wI_eq _ _ _ _
  have So : ∀ k i : Nat, k ≠ 13 → (ux_wI (ux_wI (ux_wI (ux_I σ 13 (upd (σ.1 13) 0 1)) 13 1 (σ.1 182 6)) 13 2 0) 13 3 (-1)).1 k i = σ.1 k i := fun k i hk => by
    rw [wI_k _ _ _ _ hk, wI_k _ _ _ _ hk, wI_k _ _ _ _ hk]
    show (if k = 13 then _ else σ.1 k) i = _
    rw [if_neg hk]
  generalize ux_wI (ux_wI (ux_wI (ux_I σ 13 (upd (σ.1 13) 0 1)) 13 1 (σ.1 182 6)) 13 2 0) 13 3 (-1) = sA at h S0 S1 S2' S3 So
  obtain ⟨u1, s6, f6, h⟩ := bsS h
  unfold fX3_look fX3_look_0 at f6
  obtain ⟨r11, f11, f6⟩ := biS f6
  have e11 : r11 = Int32.ofNat (popN (σ.1 182 0).toInt.toNat 12) := by
    rw [So 182 0 (by decide), bitCount_eq d2 m4] at f11
    exact (Option.some.inj f11).symm
  have f6 : fX3_look_26 τ FU (ux_wI (ux_wI (ux_wI sA 13 4 r11) 13 6 0) 13 7 0) 0 0 = some (u1, s6) := f6
  have T4 : (ux_wI (ux_wI (ux_wI sA 13 4 r11) 13 6 0) 13 7 0).1 13 4 = r11 := by rw [wI_i _ _ _ (by decide), wI_i _ _ _ (by decide), wI_eq]
  have T6 : (ux_wI (ux_wI (ux_wI sA 13 4 r11) 13 6 0) 13 7 0).1 13 6 = 0 := by rw [wI_i _ _ _ (by decide), wI_eq]
  have T7 : (ux_wI (ux_wI (ux_wI sA 13 4 r11) 13 6 0) 13 7 0).1 13 7 = 0 := wI_eq _ _ _ _
  have Tl : ∀ i : Nat, i < 4 → (ux_wI (ux_wI (ux_wI sA 13 4 r11) 13 6 0) 13 7 0).1 13 i = sA.1 13 i := fun i hi => by rw [wI_i _ _ _ (show i ≠ 7 by omega), wI_i _ _ _ (show i ≠ 6 by omega), wI_i _ _ _ (show i ≠ 4 by omega)]
  have To : ∀ k i : Nat, k ≠ 13 → (ux_wI (ux_wI (ux_wI sA 13 4 r11) 13 6 0) 13 7 0).1 k i = σ.1 k i := fun k i hk => by rw [wI_k _ _ _ _ hk, wI_k _ _ _ _ hk, wI_k _ _ _ _ hk, So k i hk]
  generalize ux_wI (ux_wI (ux_wI sA 13 4 r11) 13 6 0) 13 7 0 = sB at f6 T4 T6 T7 Tl To
  have h2 : fX12_numbers_24 FU (ux_wI (ux_wI (ux_wI (ux_wI ρ 0 48 0) 0 49 0) 0 50 0) 0 51 0) t 0 0 = some (u, ρ1) := h2
  have R48 : (ux_wI (ux_wI (ux_wI (ux_wI ρ 0 48 0) 0 49 0) 0 50 0) 0 51 0).1 0 48 = 0 := by rw [wI_i _ _ _ (by decide), wI_i _ _ _ (by decide), wI_i _ _ _ (by decide), wI_eq]
  have R49 : (ux_wI (ux_wI (ux_wI (ux_wI ρ 0 48 0) 0 49 0) 0 50 0) 0 51 0).1 0 49 = 0 := by rw [wI_i _ _ _ (by decide), wI_i _ _ _ (by decide), wI_eq]
  have R50 : (ux_wI (ux_wI (ux_wI (ux_wI ρ 0 48 0) 0 49 0) 0 50 0) 0 51 0).1 0 50 = 0 := by rw [wI_i _ _ _ (by decide), wI_eq]
  have R51 : (ux_wI (ux_wI (ux_wI (ux_wI ρ 0 48 0) 0 49 0) 0 50 0) 0 51 0).1 0 51 = 0 := wI_eq _ _ _ _
  have Rg : LkG ρ (ux_wI (ux_wI (ux_wI (ux_wI ρ 0 48 0) 0 49 0) 0 50 0) 0 51 0) := ((((LkG.rf ρ).w _ (by decide)).w _ (by decide)).w _ (by decide)).w _ (by decide)
  generalize ux_wI (ux_wI (ux_wI (ux_wI ρ 0 48 0) 0 49 0) 0 50 0) 0 51 0 = rA at h2 R48 R49 R50 R51 Rg
  have hL : LK t 0 0 sB rA := ⟨by rw [T6, R50], by rw [T7, R51], by rw [R48]; rfl, by rw [R49]; decide, by decide, by decide⟩
  have hD2 : DR t sB rA := hD.fr (fun i => Rg.1 8 i (by decide)) (Rg.2 3 (by decide)) (fun i => Rg.1 15 i (by decide)) (fun i => Rg.1 16 i (by decide)) (To 182 0 (by decide)) (fun i => To 183 i (by decide)) (fun i => To 9 i (by decide))
  obtain ⟨a1, a2, a3, a4, a5, a6, a7, a8⟩ := look_lp FU FU sB rA s6 ρ1 0 0 u1 u hD2 hL (by decide) (by rw [Rg.2 3 (by decide), i_0]; omega) f6 h2
  unfold fX12_reads fX12_reads_0 at h3
  obtain ⟨_, h3⟩ := ckS h3
  obtain ⟨_, h3⟩ := ckS h3
  obtain ⟨_, h3⟩ := ckS h3
  have h3 : fX12_reads_45 FU (ux_wI (ux_wI (ux_wI (ux_wI (ux_wI (ux_wI (ux_wI ρ1 0 44 t) 0 45 0) 0 46 0) 0 47 0) 10 t.toNatClampNeg 2) 11 t.toNatClampNeg 1) 12 t.toNatClampNeg 0) t 0 1 = some (q, ρ') := h3
  have e13 : ∀ i : Nat, ρ1.1 13 i = ρ.1 13 i := fun i => (a7 13 i (by decide)).trans (Rg.1 13 i (by decide))
  have e14 : ∀ i : Nat, ρ1.1 14 i = ρ.1 14 i := fun i => (a7 14 i (by decide)).trans (Rg.1 14 i (by decide))
  have e1 : s6.1 13 1 = σ.1 182 6 := (a6 1 (by decide)).trans ((Tl 1 (by decide)).trans S1)
  have e0 : s6.1 13 0 = 1 := (a6 0 (by decide)).trans ((Tl 0 (by decide)).trans S0)
  have e2 : s6.1 13 2 = 0 := (a6 2 (by decide)).trans ((Tl 2 (by decide)).trans S2')
  have e3 : s6.1 13 3 = -1 := (a6 3 (by decide)).trans ((Tl 3 (by decide)).trans S3)
  have e4 : s6.1 13 4 = r11 := (a6 4 (by decide)).trans T4
  have e185 : ∀ i : Nat, s6.1 185 i = σ.1 185 i := fun i => (a5 185 i (by decide)).trans (To 185 i (by decide))
  rw [To 182 0 (by decide)] at a3
  -- both states behind the heads
  have A13 : ∀ i : Nat, (ux_wI (ux_wI (ux_wI s6 182 2 2) 182 3 1) 182 4 0).1 13 i = s6.1 13 i := fun i => by rw [wI_k _ _ _ _ (by decide), wI_k _ _ _ _ (by decide), wI_k _ _ _ _ (by decide)]
  have A185 : ∀ i : Nat, (ux_wI (ux_wI (ux_wI s6 182 2 2) 182 3 1) 182 4 0).1 185 i = s6.1 185 i := fun i => by rw [wI_k _ _ _ _ (by decide), wI_k _ _ _ _ (by decide), wI_k _ _ _ _ (by decide)]
  have A2 : (ux_wI (ux_wI (ux_wI s6 182 2 2) 182 3 1) 182 4 0).1 182 2 = 2 := by rw [wI_i _ _ _ (by decide), wI_i _ _ _ (by decide), wI_eq]
  have A3 : (ux_wI (ux_wI (ux_wI s6 182 2 2) 182 3 1) 182 4 0).1 182 3 = 1 := by rw [wI_i _ _ _ (by decide), wI_eq]
  have A4 : (ux_wI (ux_wI (ux_wI s6 182 2 2) 182 3 1) 182 4 0).1 182 4 = 0 := wI_eq _ _ _ _
  generalize ux_wI (ux_wI (ux_wI s6 182 2 2) 182 3 1) 182 4 0 = sC at h A13 A185 A2 A3 A4
  have B44 : (ux_wI (ux_wI (ux_wI (ux_wI (ux_wI (ux_wI (ux_wI ρ1 0 44 t) 0 45 0) 0 46 0) 0 47 0) 10 t.toNatClampNeg 2) 11 t.toNatClampNeg 1) 12 t.toNatClampNeg 0).1 0 44 = t := by rw [wI_k _ _ _ _ (by decide), wI_k _ _ _ _ (by decide), wI_k _ _ _ _ (by decide), wI_i _ _ _ (by decide), wI_i _ _ _ (by decide), wI_i _ _ _ (by decide), wI_eq]
  have B45 : (ux_wI (ux_wI (ux_wI (ux_wI (ux_wI (ux_wI (ux_wI ρ1 0 44 t) 0 45 0) 0 46 0) 0 47 0) 10 t.toNatClampNeg 2) 11 t.toNatClampNeg 1) 12 t.toNatClampNeg 0).1 0 45 = 0 := by rw [wI_k _ _ _ _ (by decide), wI_k _ _ _ _ (by decide), wI_k _ _ _ _ (by decide), wI_i _ _ _ (by decide), wI_i _ _ _ (by decide), wI_eq]
  have B46 : (ux_wI (ux_wI (ux_wI (ux_wI (ux_wI (ux_wI (ux_wI ρ1 0 44 t) 0 45 0) 0 46 0) 0 47 0) 10 t.toNatClampNeg 2) 11 t.toNatClampNeg 1) 12 t.toNatClampNeg 0).1 0 46 = 0 := by rw [wI_k _ _ _ _ (by decide), wI_k _ _ _ _ (by decide), wI_k _ _ _ _ (by decide), wI_i _ _ _ (by decide), wI_eq]
  have B47 : (ux_wI (ux_wI (ux_wI (ux_wI (ux_wI (ux_wI (ux_wI ρ1 0 44 t) 0 45 0) 0 46 0) 0 47 0) 10 t.toNatClampNeg 2) 11 t.toNatClampNeg 1) 12 t.toNatClampNeg 0).1 0 47 = 0 := by rw [wI_k _ _ _ _ (by decide), wI_k _ _ _ _ (by decide), wI_k _ _ _ _ (by decide), wI_eq]
  have B0 : ∀ i : Nat, 48 ≤ i → (ux_wI (ux_wI (ux_wI (ux_wI (ux_wI (ux_wI (ux_wI ρ1 0 44 t) 0 45 0) 0 46 0) 0 47 0) 10 t.toNatClampNeg 2) 11 t.toNatClampNeg 1) 12 t.toNatClampNeg 0).1 0 i = ρ1.1 0 i := fun i hi => by rw [wI_k _ _ _ _ (by decide), wI_k _ _ _ _ (by decide), wI_k _ _ _ _ (by decide), wI_i _ _ _ (show i ≠ 47 by omega), wI_i _ _ _ (show i ≠ 46 by omega), wI_i _ _ _ (show i ≠ 45 by omega), wI_i _ _ _ (show i ≠ 44 by omega)]
  have B10 : (ux_wI (ux_wI (ux_wI (ux_wI (ux_wI (ux_wI (ux_wI ρ1 0 44 t) 0 45 0) 0 46 0) 0 47 0) 10 t.toNatClampNeg 2) 11 t.toNatClampNeg 1) 12 t.toNatClampNeg 0).1 10 t.toNatClampNeg = 2 := by rw [wI_k _ _ _ _ (by decide), wI_k _ _ _ _ (by decide), wI_eq]
  have B11 : (ux_wI (ux_wI (ux_wI (ux_wI (ux_wI (ux_wI (ux_wI ρ1 0 44 t) 0 45 0) 0 46 0) 0 47 0) 10 t.toNatClampNeg 2) 11 t.toNatClampNeg 1) 12 t.toNatClampNeg 0).1 11 t.toNatClampNeg = 1 := by rw [wI_k _ _ _ _ (by decide), wI_eq]
  have B12 : (ux_wI (ux_wI (ux_wI (ux_wI (ux_wI (ux_wI (ux_wI ρ1 0 44 t) 0 45 0) 0 46 0) 0 47 0) 10 t.toNatClampNeg 2) 11 t.toNatClampNeg 1) 12 t.toNatClampNeg 0).1 12 t.toNatClampNeg = 0 := wI_eq _ _ _ _
  have Bo : ∀ k i : Nat, k ≠ 0 → k ≠ 10 → k ≠ 11 → k ≠ 12 → (ux_wI (ux_wI (ux_wI (ux_wI (ux_wI (ux_wI (ux_wI ρ1 0 44 t) 0 45 0) 0 46 0) 0 47 0) 10 t.toNatClampNeg 2) 11 t.toNatClampNeg 1) 12 t.toNatClampNeg 0).1 k i = ρ1.1 k i := fun k i h0 h10 h11 h12 => by rw [wI_k _ _ _ _ h12, wI_k _ _ _ _ h11, wI_k _ _ _ _ h10, wI_k _ _ _ _ h0, wI_k _ _ _ _ h0, wI_k _ _ _ _ h0, wI_k _ _ _ _ h0]
  generalize ux_wI (ux_wI (ux_wI (ux_wI (ux_wI (ux_wI (ux_wI ρ1 0 44 t) 0 45 0) 0 46 0) 0 47 0) 10 t.toNatClampNeg 2) 11 t.toNatClampNeg 1) 12 t.toNatClampNeg 0 = rC at h3 B44 B45 B46 B47 B0 B10 B11 B12 Bo
  have hB : PB t sC rC := by
    refine ⟨by rw [A13, e0], B44, ⟨t0, t1⟩, ?_, ?_, fun i hi => ?_, ?_, ?_, ?_, ?_⟩
    · rw [Bo 13 _ (by decide) (by decide) (by decide) (by decide), e13, A13, e1, hl]
    · rw [A13, e1]; exact hb
    · rw [A13, e1] at hi
      rw [Bo 14 _ (by decide) (by decide) (by decide) (by decide), e14, A185, e185]; exact hw i hi
    · rw [B0 48 (by decide), A13, e4, e11]; exact a3
    · rw [B0 49 (by decide), A13]; exact a4
    · rw [B0 50 (by decide), A13]; exact a1.symm
    · rw [B0 51 (by decide), A13]; exact a2.symm
  have hN : PN 0 sC rC := by
    refine ⟨by rw [A13, e3], B47, ?_, B46, ?_, ?_⟩
    · rw [B45, A13, e2]
    · rw [A13, e2, z0]; omega
    · rw [A13, A13, e2, e1, z0]; exact hb.1
  have hC : PC t sC rC := ⟨by rw [B10, A2], by rw [B11, A3], by rw [B12, A4]⟩
  exact work_lp FU FU _ _ σ' ρ' 0 0 r q hB hN hC (Or.inl ⟨rfl, rfl⟩) h h3
end WORK
