/-! picking by sums: the class sorts, the reference takes the best one after another -/
section SUMS
variable {τ b : Nat} {t m : Int32}
noncomputable def sx (x : Int32) : Int32 := (UInt32.toInt32 (Int32.toUInt32 ((x * 1103515245) + 12345) >>> (Int32.toUInt32 8 &&& Int32.toUInt32 31))) - (UInt32.toInt32 (Int32.toUInt32 ((x * 1103515245) + 12345) >>> (Int32.toUInt32 8 &&& Int32.toUInt32 31))) / 1000 * 1000
theorem sx_c (σ : S2) (x : Int32) : fX11_strewn τ σ x = some (sx x) := by
  unfold fX11_strewn fX11_strewn_0 dz
  rw [if_neg (by decide)]; rfl
/-- the sum of keeper k for m -/
noncomputable def Sm (b : Nat) (σ0 : S2) (m k : Int32) : Int32 := sx (((m * 7919) + (k * 104729)) + σ0.1 (182 + 6 * b) 1) * σ0.1 (182 + 6 * b + 1) k.toNatClampNeg
/-- x comes ahead of y: the greater sum, or the same and the smaller keeper -/
noncomputable def bf (b : Nat) (σ0 : S2) (m x y : Int32) : Prop := (Sm b σ0 m y).toInt < (Sm b σ0 m x).toInt ∨ ((Sm b σ0 m x).toInt = (Sm b σ0 m y).toInt ∧ x.toInt < y.toInt)
theorem bf_irr {σ0 : S2} {x y : Int32} (h : bf b σ0 m x y) (h2 : bf b σ0 m y x) : False := by
  rcases h with h | h <;> rcases h2 with h2 | h2 <;> omega
/-- the sorted keepers: n of them, in places 0 to n - 1 of L, sums in U -/
noncomputable def SRT (b : Nat) (σ0 : S2) (m : Int32) (hi : Int) (n : Nat) (L U : Nat → Int32) : Prop := (∀ i : Nat, i < n → 0 ≤ (L i).toInt ∧ (L i).toInt < hi ∧ (σ0.1 (182 + 6 * b) 0).toInt.toNat.testBit (L i).toInt.toNat = true ∧ U i = Sm b σ0 m (L i)) ∧ (∀ i j : Nat, i < j → j < n → bf b σ0 m (L i) (L j)) ∧ ∀ k : Nat, (k : Int) < hi → (σ0.1 (182 + 6 * b) 0).toInt.toNat.testBit k = true → ∃ i : Nat, i < n ∧ (L i).toInt = (k : Int)
/-- a keeper put into its place -/
theorem srt_put {σ0 : S2} {n i : Nat} {L U L2 U2 : Nat → Int32} {k v : Int32} (h : SRT b σ0 m k.toInt n L U) (k0 : 0 ≤ k.toInt) (hk : (σ0.1 (182 + 6 * b) 0).toInt.toNat.testBit k.toInt.toNat = true) (hv : v = Sm b σ0 m k) (hi : i ≤ n) (h1 : ∀ a : Nat, a < i → L2 a = L a ∧ U2 a = U a) (h2 : L2 i = k ∧ U2 i = v) (h3 : ∀ a : Nat, i ≤ a → a < n → L2 (a + 1) = L a ∧ U2 (a + 1) = U a ∧ (U a).toInt < v.toInt) (h4 : i = 0 ∨ v.toInt ≤ (U (i - 1)).toInt) : SRT b σ0 m (k.toInt + 1) (n + 1) L2 U2 := by
  obtain ⟨a1, a2, a3⟩ := h
  have up : ∀ a : Nat, a < i → v.toInt ≤ (U a).toInt := fun a ha => by
    rcases h4 with w | w
    · omega
    · by_cases q : a = i - 1
      · rw [q]; exact w
      · have := a2 a (i - 1) (by omega) (by omega)
        rw [(a1 (i - 1) (by omega)).2.2.2] at w
        rw [(a1 a (by omega)).2.2.2]
        rcases this with p | p <;> omega
  have ahead : ∀ a : Nat, a < i → bf b σ0 m (L a) k := fun a ha => by
    have u := up a ha
    have p := a1 a (by omega)
    rw [p.2.2.2, hv] at u
    by_cases q : (Sm b σ0 m k).toInt < (Sm b σ0 m (L a)).toInt
    · exact Or.inl q
    · exact Or.inr ⟨by omega, p.2.1⟩
  have behind : ∀ a : Nat, i ≤ a → a < n → bf b σ0 m k (L a) := fun a ha hn => by
    have u := (h3 a ha hn).2.2
    rw [(a1 a hn).2.2.2, hv] at u
    exact Or.inl u
  refine ⟨fun a ha => ?_, fun a c hac hc => ?_, fun x hx ht => ?_⟩
  · by_cases q : a < i
    · rw [(h1 a q).1, (h1 a q).2]
      have p := a1 a (by omega)
      exact ⟨p.1, by omega, p.2.2⟩
    · by_cases q2 : a = i
      · rw [q2, h2.1, h2.2]; exact ⟨k0, by omega, hk, hv⟩
      · have w := h3 (a - 1) (by omega) (by omega)
        rw [show a - 1 + 1 = a by omega] at w
        rw [w.1, w.2.1]
        have p := a1 (a - 1) (by omega)
        exact ⟨p.1, by omega, p.2.2⟩
  · by_cases q : c < i
    · rw [(h1 a (by omega)).1, (h1 c q).1]; exact a2 a c hac (by omega)
    · by_cases q2 : c = i
      · rw [q2, h2.1, (h1 a (by omega)).1]; exact ahead a (by omega)
      · have w := h3 (c - 1) (by omega) (by omega)
        rw [show c - 1 + 1 = c by omega] at w
        rw [w.1]
        by_cases r : a < i
        · rw [(h1 a r).1]; exact a2 a (c - 1) (by omega) (by omega)
        · by_cases r2 : a = i
          · rw [r2, h2.1]; exact behind (c - 1) (by omega) (by omega)
          · have w2 := h3 (a - 1) (by omega) (by omega)
            rw [show a - 1 + 1 = a by omega] at w2
            rw [w2.1]; exact a2 (a - 1) (c - 1) (by omega) (by omega)
  · by_cases q : (x : Int) < k.toInt
    · obtain ⟨j, hj, e⟩ := a3 x q ht
      by_cases r : j < i
      · exact ⟨j, by omega, by rw [(h1 j r).1]; exact e⟩
      · exact ⟨j + 1, by omega, by rw [(h3 j (by omega) hj).1]; exact e⟩
    · exact ⟨i, by omega, by rw [h2.1]; omega⟩
/-- the inner loop of the class: shifting -/
theorem ins_42 {Q : Unit × S2 → Prop} {k2 : S2 → Int32 → Int32 → Option (Unit × S2)} {σ0 : S2} {k v : Int32} {c : Nat} {L U : Nat → Int32} (hc : c ≤ 11) (kx : ∀ (σ : S2) (i : Nat), i ≤ c → (∀ a : Nat, a < i → σ.1 15 a = L a ∧ σ.1 17 a = U a) → (σ.1 15 i = k ∧ σ.1 17 i = v) → (∀ a : Nat, i ≤ a → a < c → σ.1 15 (a + 1) = L a ∧ σ.1 17 (a + 1) = U a ∧ (U a).toInt < v.toInt) → (i = 0 ∨ v.toInt ≤ (U (i - 1)).toInt) → (σ.1 14 2).toInt = (c : Int) + 1 → (∀ j i : Nat, j ≠ 14 → j ≠ 15 → j ≠ 17 → σ.1 j i = σ0.1 j i) → Pt Q (k2 σ m (k + 1))) : ∀ (N : Nat) (σ : S2) (i : Int32), 0 ≤ i.toInt → i.toInt ≤ (c : Int) → (∀ a : Nat, (a : Int) < i.toInt → σ.1 15 a = L a ∧ σ.1 17 a = U a) → (∀ a : Nat, i.toInt ≤ (a : Int) → a < c → σ.1 15 (a + 1) = L a ∧ σ.1 17 (a + 1) = U a ∧ (U a).toInt < v.toInt) → (σ.1 14 2).toInt = (c : Int) → (∀ j i : Nat, j ≠ 14 → j ≠ 15 → j ≠ 17 → σ.1 j i = σ0.1 j i) → Pt Q (fX1_pickBySums_42 τ b k2 N σ m k v i i) := by
  have z0 := i_0
  have z1 := i_1
  have y1 := i_m1
  intro N
  induction N with
  | zero => intro σ i _ _ _ _ _ _; exact pt_none
  | succ N ih =>
    intro σ i i0 i1 h1 h3 h5 h6
    have ni := i32_nat i0
    have put : (i.toInt = 0 ∨ v.toInt ≤ (U (i.toInt.toNat - 1)).toInt) → Pt Q (fX1_pickBySums_105 τ b k2 σ m k v i) := fun h4 => by
      unfold fX1_pickBySums_105 fX1_pickBySums_132
      refine pt_ck (fun _ _ _ => pt_nm (fun s2 e2 => pt_ck (fun _ _ _ => pt_nm (fun s3 e3 => pt_nm (fun s4 e4 => pt_nm (fun v1 e1 => ?_))))))
      have g2 : s3.1 14 2 = σ.1 14 2 := by rw [e3, wI_k _ _ _ _ (by decide), e2, wI_k _ _ _ _ (by decide)]
      have o15 : ∀ a : Nat, s4.1 15 a = if a = i.toNatClampNeg then k else σ.1 15 a := fun a => by
        rw [e4, wI_k _ _ _ _ (show 15 ≠ 14 by decide), e3]
        by_cases q : a = i.toNatClampNeg
        · rw [if_pos q, q, wI_eq]
        · rw [if_neg q, wI_i _ _ _ q, e2, wI_k _ _ _ _ (by decide)]
      have o17 : ∀ a : Nat, s4.1 17 a = if a = i.toNatClampNeg then v else σ.1 17 a := fun a => by
        rw [e4, wI_k _ _ _ _ (show 17 ≠ 14 by decide), e3, wI_k _ _ _ _ (show 17 ≠ 15 by decide), e2]
        by_cases q : a = i.toNatClampNeg
        · rw [if_pos q, q, wI_eq]
        · rw [if_neg q, wI_i _ _ _ q]
      rw [e1]
      refine kx s4 i.toNatClampNeg (by omega) (fun a ha => ?_) ⟨by rw [o15, if_pos rfl], by rw [o17, if_pos rfl]⟩ (fun a ha hc => ?_) (by rcases h4 with w | w; exact Or.inl (by omega); exact Or.inr (by rw [show i.toNatClampNeg = i.toInt.toNat by omega]; exact w)) ?_ (fun j q h14 h15 h17 => ?_)
      · rw [o15, o17, if_neg (by omega), if_neg (by omega)]; exact h1 a (by omega)
      · rw [o15, o17, if_neg (by omega), if_neg (by omega)]; exact h3 a (by omega) hc
      · rw [e4, wI_eq, g2, i32_add (by omega) (by omega)]; omega
      · rw [e4, wI_k _ _ _ _ h14, e3, wI_k _ _ _ _ h15, e2, wI_k _ _ _ _ h17]; exact h6 j q h14 h15 h17
    unfold fX1_pickBySums_42
    refine pt_le (fun h => put (Or.inl (by omega))) (fun h => ?_)
    have em : (i - 1).toInt = i.toInt - 1 := by rw [i32_sub (by omega) (by omega)]; omega
    have ea : (i + -1).toInt = i.toInt - 1 := by rw [i32_add (by omega) (by omega)]; omega
    have nm1 := i32_nat (i := i - 1) (by omega)
    have w1 := h1 (i - 1).toNatClampNeg (by omega)
    refine pt_ck (fun _ _ _ => pt_nm (fun v5 e5 => ?_))
    rw [w1.2] at e5
    refine pt_le (fun hle => put (Or.inr (by rw [show i.toInt.toNat - 1 = (i - 1).toNatClampNeg by omega, ← e5]; exact hle))) (fun hlt => ?_)
    refine pt_ck (fun _ _ _ => pt_nm (fun v6 e6 => pt_ck (fun _ _ _ => pt_nm (fun s7 e7 => pt_ck (fun _ _ _ => pt_nm (fun v8 e8 => pt_ck (fun _ _ _ => pt_nm (fun s9 e9 => pt_nm (fun v10 e10 => pt_nm (fun v11 e11 => ?_))))))))))
    rw [w1.2] at e6
    have g8 : v8 = L (i - 1).toNatClampNeg := by rw [e8, e7, wI_k _ _ _ _ (by decide), w1.1]
    have o15 : ∀ a : Nat, s9.1 15 a = if a = i.toNatClampNeg then L (i - 1).toNatClampNeg else σ.1 15 a := fun a => by
      rw [e9]
      by_cases q : a = i.toNatClampNeg
      · rw [if_pos q, q, wI_eq, g8]
      · rw [if_neg q, wI_i _ _ _ q, e7, wI_k _ _ _ _ (by decide)]
    have o17 : ∀ a : Nat, s9.1 17 a = if a = i.toNatClampNeg then U (i - 1).toNatClampNeg else σ.1 17 a := fun a => by
      rw [e9, wI_k _ _ _ _ (by decide), e7]
      by_cases q : a = i.toNatClampNeg
      · rw [if_pos q, q, wI_eq, e6]
      · rw [if_neg q, wI_i _ _ _ q]
    have e1011 : v11 = v10 := by rw [e10, e11]; exact Int32.toInt_inj.mp (by rw [em, ea])
    rw [e1011, e10]
    refine ih s9 (i - 1) (by omega) (by omega) (fun a ha => ?_) (fun a ha hc => ?_) ?_ (fun j q h14 h15 h17 => ?_)
    · rw [o15, o17, if_neg (by omega), if_neg (by omega)]; exact h1 a (by omega)
    · rw [o15, o17]
      by_cases q : a + 1 = i.toNatClampNeg
      · rw [if_pos q, if_pos q, show (i - 1).toNatClampNeg = a by omega]
        rw [e5, show (i - 1).toNatClampNeg = a by omega] at hlt
        exact ⟨rfl, rfl, hlt⟩
      · rw [if_neg q, if_neg q]; exact h3 a (by omega) hc
    · rw [e9, wI_k _ _ _ _ (by decide), e7, wI_k _ _ _ _ (by decide)]; exact h5
    · rw [e9, wI_k _ _ _ _ h15, e7, wI_k _ _ _ _ h17]; exact h6 j q h14 h15 h17
end SUMS
