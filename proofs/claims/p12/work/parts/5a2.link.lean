/-! the links from place to place: the first taken place from each on -/
section LINK
variable {τ b : Nat}
/-- r is the first taken place from p on, d places further -/
noncomputable def FT (f : Nat → Int32) (p d r : Int) : Prop := 0 ≤ d ∧ r = (p + d) % 1000 ∧ f r.toNat ≠ -1 ∧ ∀ j : Int, 0 ≤ j → j < d → f ((p + j) % 1000).toNat = -1
theorem ft_ex {f : Nat → Int32} {x : Int} (h0 : 0 ≤ x) (h1 : x ≤ 999) (h : ∃ q : Nat, q < 1000 ∧ f q ≠ -1) : ∃ d r : Int, d < 1000 ∧ FT f x d r := by
  have g : ∀ p : Nat, (if f p = -1 then (0 : Int32) else -1) = -1 ↔ f p ≠ -1 := fun p => by
    by_cases c : f p = -1
    · rw [if_pos c]; exact ⟨fun w => absurd w (by decide), fun w => absurd c w⟩
    · rw [if_neg c]; exact ⟨fun _ => c, fun _ => rfl⟩
  obtain ⟨q, hq, hf⟩ := h
  obtain ⟨d, r, hd, a1, a2, a3, a4⟩ := ff_ex (f := fun p => if f p = -1 then (0 : Int32) else -1) h0 h1 ⟨q, hq, (g q).mpr hf⟩
  refine ⟨d, r, hd, a1, a2, (g _).mp a3, fun j j0 jd => ?_⟩
  by_cases c : f ((x + j) % 1000).toNat = -1
  · exact c
  · exact absurd ((g _).mpr c) (a4 j j0 jd)
theorem FT.uniq {f : Nat → Int32} {p d r d2 r2 : Int} (h : FT f p d r) (h2 : FT f p d2 r2) : d = d2 ∧ r = r2 := by
  obtain ⟨a1, a2, a3, a4⟩ := h
  obtain ⟨b1, b2, b3, b4⟩ := h2
  have e : d = d2 := by
    by_cases c : d < d2
    · exact absurd (b4 d a1 c) (by rw [← a2]; exact a3)
    · by_cases c2 : d2 < d
      · exact absurd (a4 d2 b1 c2) (by rw [← b2]; exact b3)
      · omega
  exact ⟨e, by omega⟩
theorem link_6 {σ0 : S2} : ∀ (N : Nat) (σ : S2) (nx i : Int32), -1 ≤ i.toInt → i.toInt ≤ 1999 → 0 ≤ nx.toInt → nx.toInt ≤ 999 → (∀ u : Int, i.toInt < u → u ≤ 1999 → σ0.1 (182 + 6 * b + 4) (u % 1000).toNat ≠ -1 → (∀ v : Int, i.toInt < v → v < u → σ0.1 (182 + 6 * b + 4) (v % 1000).toNat = -1) → nx.toInt = u % 1000) → (∀ p : Nat, i.toInt < (p : Int) → p < 1000 → (∃ q : Nat, q < 1000 ∧ σ0.1 (182 + 6 * b + 4) q ≠ -1) → ∃ d : Int, d < 1000 ∧ FT (σ0.1 (182 + 6 * b + 4)) p d (σ.1 (182 + 6 * b + 5) p).toInt) → (∀ k j : Nat, k ≠ 182 + 6 * b + 5 → σ.1 k j = σ0.1 k j) → Pt (fun z : Unit × S2 => (∀ p : Nat, p < 1000 → (∃ q : Nat, q < 1000 ∧ σ0.1 (182 + 6 * b + 4) q ≠ -1) → ∃ d : Int, d < 1000 ∧ FT (σ0.1 (182 + 6 * b + 4)) p d (z.2.1 (182 + 6 * b + 5) p).toInt) ∧ ∀ k j : Nat, k ≠ 182 + 6 * b + 5 → z.2.1 k j = σ0.1 k j) (fX8_linkPlaces_6 τ b N σ nx i) := by
  have z0 := i_0
  have y1 := i_m1
  have z1000 : (1000 : Int32).toInt = 1000 := rfl
  intro N
  induction N with
  | zero => intro σ nx i _ _ _ _ _ _ _; exact pt_none
  | succ N ih =>
    intro σ nx i i0 i1 n0 n1 hA hB hf
    unfold fX8_linkPlaces_6
    refine pt_lt (fun h => pt_some ⟨fun p hp he => hB p (by omega) hp he, hf⟩) (fun h => pt_dz (fun _ => pt_nm (fun v4 e4 => pt_ck (fun _ _ _ => pt_nm (fun v5 e5 => ?_)))))
    have m4 : v4.toInt = i.toInt % 1000 := by rw [e4]; exact i32_rem z1000 (by omega) (by omega)
    have n4 := i32_nat (i := v4) (by omega)
    have ei : (i + -1).toInt = i.toInt - 1 := by rw [i32_add (by omega) (by omega)]; omega
    have e5 : v5 = σ0.1 (182 + 6 * b + 4) (i.toInt % 1000).toNat := by
      rw [e5, hf _ _ (by omega)]; exact congrArg _ (by omega)
    have step : ∀ x : Int32, 0 ≤ x.toInt → x.toInt ≤ 999 → (∀ u : Int, i.toInt - 1 < u → u ≤ 1999 → σ0.1 (182 + 6 * b + 4) (u % 1000).toNat ≠ -1 → (∀ v : Int, i.toInt - 1 < v → v < u → σ0.1 (182 + 6 * b + 4) (v % 1000).toNat = -1) → x.toInt = u % 1000) → Pt (fun z : Unit × S2 => (∀ p : Nat, p < 1000 → (∃ q : Nat, q < 1000 ∧ σ0.1 (182 + 6 * b + 4) q ≠ -1) → ∃ d : Int, d < 1000 ∧ FT (σ0.1 (182 + 6 * b + 4)) p d (z.2.1 (182 + 6 * b + 5) p).toInt) ∧ ∀ k j : Nat, k ≠ 182 + 6 * b + 5 → z.2.1 k j = σ0.1 k j) (fX8_linkPlaces_28 τ b (fX8_linkPlaces_6 τ b N) σ x i v4) := fun x x0 x1 hx => by
      unfold fX8_linkPlaces_28
      refine pt_ck (fun _ _ _ => pt_nm (fun s1 es => pt_nm (fun v2 e2 => ?_)))
      rw [e2]
      have ex : vp_nar .short (Int16.toInt32 (Int32.toInt16 x)) = x := Int32.toInt_inj.mp (i32_i16 x0 x1)
      rw [ex] at es
      refine ih s1 x (i + -1) (by omega) (by omega) x0 x1 (by rw [ei]; exact hx) (fun p hp p1 he => ?_) (fun k j hk => by rw [es, wI_k _ _ _ _ hk]; exact hf k j hk)
      rw [ei] at hp
      by_cases c : (p : Int) = i.toInt
      · have ep : p = v4.toNatClampNeg := by omega
        rw [es, ep, wI_eq, ← ep]
        obtain ⟨d, r, hd, hF⟩ := ft_ex (f := σ0.1 (182 + 6 * b + 4)) (x := (p : Int)) (by omega) (by omega) he
        obtain ⟨a1, a2, a3, a4⟩ := id hF
        have w := hx ((p : Int) + d) (by omega) (by omega) (by rw [← a2]; exact a3) (fun v v0 v1 => by
          have := a4 (v - p) (by omega) (by omega)
          rw [show (p : Int) + (v - p) = v by omega] at this; exact this)
        exact ⟨d, hd, by rw [w, ← a2]; exact hF⟩
      · rw [es, wI_i _ _ _ (show p ≠ v4.toNatClampNeg by omega)]
        exact hB p (by omega) p1 he
    refine pt_if (fun c => step nx n0 n1 (fun u u0 u1 hu hv => ?_)) (fun c => step v4 (by omega) (by omega) (fun u u0 u1 hu hv => ?_))
    · have ne : u ≠ i.toInt := fun w => by
        rw [w, ← e5] at hu; exact hu c
      exact hA u (by omega) u1 hu (fun v v0 v1 => hv v (by omega) v1)
    · have ne : ¬ i.toInt < u := fun w => by
        have := hv i.toInt (by omega) w
        rw [← e5] at this; exact c this
      rw [m4, show u = i.toInt by omega]
theorem link_all {σ : S2} : Pt (fun z : Unit × S2 => (∀ p : Nat, p < 1000 → (∃ q : Nat, q < 1000 ∧ σ.1 (182 + 6 * b + 4) q ≠ -1) → ∃ d : Int, d < 1000 ∧ FT (σ.1 (182 + 6 * b + 4)) p d (z.2.1 (182 + 6 * b + 5) p).toInt) ∧ ∀ k j : Nat, k ≠ 182 + 6 * b + 5 → z.2.1 k j = σ.1 k j) (fX8_linkPlaces τ b σ) := by
  have z0 := i_0
  have z1999 : (1999 : Int32).toInt = 1999 := rfl
  unfold fX8_linkPlaces fX8_linkPlaces_0
  exact link_6 (σ0 := σ) FU σ 0 1999 (by omega) (by omega) (by omega) (by omega) (fun u u0 u1 => by exfalso; omega) (fun p p0 p1 => by exfalso; omega) (fun _ _ _ => rfl)
end LINK
