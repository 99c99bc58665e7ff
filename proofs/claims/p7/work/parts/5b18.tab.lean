section
noncomputable def QT (dC : Nat → ClassId) (dI : Nat → Nat → Nat) (cy : Nat → ClassId) (ad : Nat → Nat) (τ nb : Nat) (r0 : Int32) (δ : Nat) (σ9 : S2) (A : Nat → Prop) : Array Value → State → Outcome → State → Prop := va_Qi (fun (r : Int32) (_ : Nat → Nat) => r = r0) (fun (u : Nat → Nat) t => wAt (dC, dI) A (wG (cC cy u (τ + δ)) u (182 + 6 * (nb + δ)) σ9) t ∧ ∀ k, k < 182 + 6 * nb → u k = ad k) A
noncomputable def adT (ad : Nat → Nat) (b q : Nat) (u : Nat → Nat → Nat) (k : Nat) : Nat := if k < 182 + 6 * b then ad k else if k = 182 + 6 * b then q else u 0 (k - (182 + 6 * b) - 1)
section TBL
variable {D : va_G} {cl : List vw_C} {A : Nat → Prop} {H : Heap} {w r : va_W}
theorem tb_swP (h : va_P D cl (w ++ r) H) : va_P D cl (r ++ w) H := va_P.swap (a := []) h
theorem tb_swD (h : va_D A (w ++ r)) : va_D A (r ++ w) := va_D.swap (a := []) h
theorem tb_lP (h : va_P D cl (w ++ r) H) : va_P D cl w H := fun k q hk => h k q (by rw [List.getElem?_append_left (List.getElem?_eq_some_iff.mp hk).1]; exact hk)
theorem tb_lD (h : va_D A (w ++ r)) : va_D A w := by
  have e : ∀ (k : Nat) (q : Nat × va_E), w[k]? = some q → (w ++ r)[k]? = some q := fun k q hk => by rw [List.getElem?_append_left (List.getElem?_eq_some_iff.mp hk).1]; exact hk
  exact ⟨fun i j p q hi hj he => h.1 i j p q (e i p hi) (e j q hj) he, fun k q hk => h.2 k q (e k q hk)⟩
theorem tb_map (w : va_W) : (List.range w.length).map (fun i => w[i]?) = w.map some := by
  apply List.ext_getElem?
  intro i
  rw [List.getElem?_map, List.getElem?_map]
  by_cases h : i < w.length
  · rw [List.getElem?_range h, List.getElem?_eq_getElem h]
    simp [h]
  · rw [List.getElem?_eq_none (by simpa using h), List.getElem?_eq_none (by simpa using h)]; rfl
theorem tb_fj {A0 : Nat → Prop} {w1 : va_W} {H1 : Heap} (hP : va_P D cl (w ++ r) H) (hD : va_D A0 (w ++ r)) (hk : ∀ q : Nat, q < H.size → ¬ va_A w H.size q → H1[q]? = H[q]?) (hF : ∀ q, va_A w H.size q → A0 q) (hP1 : va_P D cl w1 H1) (hD1 : va_D (va_A w H.size) w1) : va_P D cl (w1 ++ r) H1 ∧ va_D A0 (w1 ++ r) :=
  va_joinQ (X := w) (cx := w) (wr := []) (w1 := w1) (pl := r) hP hD (List.range w.length) [] (tb_map w) rfl rfl (fun i h => by cases h) hk hF hP1 hD1
end TBL
theorem tb_row {N : Nat} {f g : Nat → Nat} {cA : ClassId} {n : Nat} (h : ∀ i, i < N → f i = g i) : (.inl (cA, n, .inr (.inr (.inr (.inr (fun i => if i < N then some (f i) else none))))) : va_E) = .inl (cA, n, .inr (.inr (.inr (.inr (fun i => if i < N then some (g i) else none))))) := by
  have : (fun i => if i < N then some (f i) else none) = (fun i => if i < N then some (g i) else none) := by
    funext i
    by_cases hi : i < N
    · rw [if_pos hi, if_pos hi, h i hi]
    · rw [if_neg hi, if_neg hi]
  rw [this]
theorem tb_cC {cy : Nat → ClassId} {ad ad2 : Nat → Nat} {τ b : Nat} (hτ : τ < b) (ha : ∀ k, k < 182 + 6 * b → ad2 k = ad k) (k : Nat) (hk : k < 182 + 6 * b) (g : Nat → Int32) (q : Nat → Int64) : cC cy ad2 τ k g q = cC cy ad τ k g q := by
  have hF : ∀ k : Nat, k < 44 → cF cy ad2 τ k g q = cF cy ad τ k g q := fun k hk => match k, hk with
    | 0, _ => by show (Sum.inr (_, oSR ad2 g) : va_E) = .inr (_, oSR ad g); unfold oSR; simp only [ha 1 (by omega), ha 3 (by omega), ha 7 (by omega), ha 13 (by omega), ha 14 (by omega), ha 42 (by omega), ha 182 (by omega), ha 18 (by omega), ha 27 (by omega), ha 32 (by omega), ha 35 (by omega), ha 37 (by omega)]
    | 1, _ => by show (Sum.inr (_, oTP ad2 g) : va_E) = .inr (_, oTP ad g); unfold oTP; simp only [ha 2 (by omega)]
    | 2, _ => rfl
    | 3, _ => by show (Sum.inr (_, oNL ad2 g) : va_E) = .inr (_, oNL ad g); unfold oNL; simp only [ha 4 (by omega), ha 5 (by omega), ha 6 (by omega)]
    | 4, _ => by exact tb_row (fun i hi => ha _ (by omega))
    | 5, _ => rfl
    | 6, _ => rfl
    | 7, _ => by show (Sum.inr (_, oKP ad2 g) : va_E) = .inr (_, oKP ad g); unfold oKP; simp only [ha 8 (by omega), ha 9 (by omega), ha 10 (by omega), ha 11 (by omega), ha 12 (by omega)]
    | 8, _ => rfl
    | 9, _ => rfl
    | 10, _ => rfl
    | 11, _ => rfl
    | 12, _ => rfl
    | 13, _ => by show (Sum.inr (_, oLW ad2 g) : va_E) = .inr (_, oLW ad g); unfold oLW; rw [ha _ (by split <;> omega)]
    | 14, _ => by show (Sum.inr (_, oCH ad2 g) : va_E) = .inr (_, oCH ad g); unfold oCH; simp only [ha 15 (by omega), ha 16 (by omega), ha 17 (by omega), ha 7 (by omega)]
    | 15, _ => rfl
    | 16, _ => rfl
    | 17, _ => rfl
    | 18, _ => by show (Sum.inr (_, oPC ad2 g) : va_E) = .inr (_, oPC ad g); unfold oPC; simp only [ha 19 (by omega), ha 20 (by omega), ha 21 (by omega), ha 22 (by omega), ha 23 (by omega), ha 24 (by omega), ha 25 (by omega), ha 26 (by omega), ha 7 (by omega), ha 3 (by omega), ha 14 (by omega)]
    | 19, _ => by exact tb_row (fun i hi => ha _ (by omega))
    | 20, _ => by exact tb_row (fun i hi => ha _ (by omega))
    | 21, _ => by exact tb_row (fun i hi => ha _ (by omega))
    | 22, _ => by exact tb_row (fun i hi => ha _ (by omega))
    | 23, _ => by exact tb_row (fun i hi => ha _ (by omega))
    | 24, _ => rfl
    | 25, _ => rfl
    | 26, _ => rfl
    | 27, _ => by show (Sum.inr (_, oOR ad2 g) : va_E) = .inr (_, oOR ad g); unfold oOR; simp only [ha 28 (by omega), ha 29 (by omega), ha 30 (by omega), ha 31 (by omega), ha 7 (by omega), ha 3 (by omega), ha 14 (by omega), ha 13 (by omega)]
    | 28, _ => rfl
    | 29, _ => rfl
    | 30, _ => by exact tb_row (fun i hi => ha _ (by omega))
    | 31, _ => rfl
    | 32, _ => by show (Sum.inr (_, oTU ad2 g) : va_E) = .inr (_, oTU ad g); unfold oTU; simp only [ha 33 (by omega), ha 34 (by omega), ha 3 (by omega)]
    | 33, _ => rfl
    | 34, _ => rfl
    | 35, _ => by show (Sum.inr (_, oAC ad2 g) : va_E) = .inr (_, oAC ad g); unfold oAC; simp only [ha 36 (by omega)]
    | 36, _ => rfl
    | 37, _ => by show (Sum.inr (_, oRW ad2 g) : va_E) = .inr (_, oRW ad g); unfold oRW; simp only [ha 38 (by omega), ha 39 (by omega), ha 40 (by omega), ha 41 (by omega)]
    | 38, _ => rfl
    | 39, _ => rfl
    | 40, _ => rfl
    | 41, _ => by exact tb_row (fun i hi => ha _ (by omega))
    | 42, _ => by exact tb_row (fun i hi => ha _ (by omega))
    | 43, _ => rfl
    | k + 44, hk => absurd hk (by omega)
  unfold cC
  by_cases h : k < 44
  · rw [if_pos h, if_pos h]; exact hF k h
  · rw [if_neg h, if_neg h]
    by_cases h2 : k < 182
    · repeat (first | (split; rfl) | (exfalso; omega) | rfl)
      all_goals (first | rfl | (exfalso; omega))
    · rw [if_neg (by omega), if_neg (by omega), if_neg (by omega), if_neg (by omega), if_neg (by omega), if_neg (by omega), if_neg (by omega), if_neg (by omega), if_neg (by omega), if_neg (by omega), if_neg (by omega), if_neg (by omega), if_neg (by omega), if_neg (by omega), if_neg (by omega), if_neg (by omega)]
      obtain ⟨c, j, hj, rfl⟩ : ∃ c j, j < 6 ∧ k = 182 + 6 * c + j := ⟨(k - 182) / 6, (k - 182) % 6, Nat.mod_lt _ (by decide), by omega⟩
      rw [show (182 + 6 * c + j - 182) % 6 = j by omega]
      match j, hj with
      | 0, _ =>
        show (Sum.inr (8, oTB ad2 (182 + 6 * c + 0) g) : va_E) = .inr (8, oTB ad (182 + 6 * c + 0) g)
        unfold oTB
        rw [ha _ (by omega), ha _ (by omega), ha _ (by omega), ha _ (by omega), ha _ (by omega)]
      | 1, _ => rfl
      | 2, _ => rfl
      | 3, _ => rfl
      | 4, _ => rfl
      | 5, _ => rfl
theorem tb_ext (cy : Nat → ClassId) (ad : Nat → Nat) (τ b : Nat) (hτ : τ < b) (q : Nat) (u : Nat → Nat → Nat) (σ : S2) : wG (cC cy ad τ) ad (182 + 6 * b) σ ++ [(q, .inr (8, [.int 0, .int 0, .int 1, .int 1, .int 0, .int 0, .int 0, .int 0, .ref (u 0 0), .ref (u 0 1), .ref (u 0 2), .ref (u 0 3), .ref (u 0 4)])), ((u 0 0), .inl (cy 0, 12, .inl (fun _ => 0))), ((u 0 1), .inl (cy 0, 12, .inl (fun _ => 0))), ((u 0 2), .inl (cy 1, 80, .inl (fun _ => 0))), ((u 0 3), .inl (cy 1, 1000, .inl (fun _ => 0))), ((u 0 4), .inl (cy 3, 1000, .inl (fun _ => 0)))] = wG (cC cy (adT ad b q u) τ) (adT ad b q u) (182 + 6 * (b + 1)) (nT σ b) := by
  have hlow : ∀ k, k < 182 + 6 * b → adT ad b q u k = ad k := fun k hk => by unfold adT; rw [if_pos hk]
  have a0 : adT ad b q u (182 + 6 * b) = q := by unfold adT; rw [if_neg (by omega), if_pos rfl]
  have aj : ∀ j, j < 5 → adT ad b q u (182 + 6 * b + (j + 1)) = u 0 j := fun j hj => by
    unfold adT
    rw [if_neg (by omega), if_neg (by omega)]
    congr 1; omega
  have n0 : (nT σ b).1 (182 + 6 * b) = tabI := by
    show (if 182 + 6 * b < 182 + 6 * b then _ else if 182 + 6 * b = 182 + 6 * b then _ else _) = _
    rw [if_neg (by omega), if_pos rfl]
  have nj : ∀ j, j < 5 → (nT σ b).1 (182 + 6 * b + (j + 1)) = (fun _ => 0) := fun j hj => by
    show (if 182 + 6 * b + (j + 1) < 182 + 6 * b then _ else if 182 + 6 * b + (j + 1) = 182 + 6 * b then _ else if 182 + 6 * b + (j + 1) < 182 + 6 * b + 6 then _ else _) = _
    rw [if_neg (by omega), if_neg (by omega), if_pos (by omega)]
  have e1 : wG (cC cy (adT ad b q u) τ) (adT ad b q u) (182 + 6 * b) (nT σ b) = wG (cC cy ad τ) ad (182 + 6 * b) σ := by
    unfold wG
    refine List.map_congr_left (fun k hk => ?_)
    have hk := List.mem_range.mp hk
    have es : (nT σ b).1 k = σ.1 k := by
      show (if k < 182 + 6 * b then σ.1 k else _) = _
      rw [if_pos hk]
    rw [hlow k hk, es, tb_cC hτ hlow k hk]; rfl
  have e2 : wG (cC cy (adT ad b q u) τ) (adT ad b q u) (182 + 6 * (b + 1)) (nT σ b) = wG (cC cy (adT ad b q u) τ) (adT ad b q u) (182 + 6 * b) (nT σ b) ++ (List.range 6).map (fun j => (adT ad b q u (182 + 6 * b + j), cC cy (adT ad b q u) τ (182 + 6 * b + j) ((nT σ b).1 (182 + 6 * b + j)) ((nT σ b).2 (182 + 6 * b + j)))) := by
    unfold wG
    rw [show 182 + 6 * (b + 1) = (182 + 6 * b) + 6 by omega, List.range_add, List.map_append, List.map_map]; rfl
  rw [e2, e1]
  congr 1
  show _ = [(adT ad b q u (182 + 6 * b + 0), cC cy (adT ad b q u) τ (182 + 6 * b + 0) ((nT σ b).1 (182 + 6 * b + 0)) ((nT σ b).2 (182 + 6 * b + 0))), (adT ad b q u (182 + 6 * b + (0 + 1)), cC cy (adT ad b q u) τ (182 + 6 * b + 1) ((nT σ b).1 (182 + 6 * b + (0 + 1))) ((nT σ b).2 (182 + 6 * b + 1))), (adT ad b q u (182 + 6 * b + (1 + 1)), cC cy (adT ad b q u) τ (182 + 6 * b + 2) ((nT σ b).1 (182 + 6 * b + (1 + 1))) ((nT σ b).2 (182 + 6 * b + 2))), (adT ad b q u (182 + 6 * b + (2 + 1)), cC cy (adT ad b q u) τ (182 + 6 * b + 3) ((nT σ b).1 (182 + 6 * b + (2 + 1))) ((nT σ b).2 (182 + 6 * b + 3))), (adT ad b q u (182 + 6 * b + (3 + 1)), cC cy (adT ad b q u) τ (182 + 6 * b + 4) ((nT σ b).1 (182 + 6 * b + (3 + 1))) ((nT σ b).2 (182 + 6 * b + 4))), (adT ad b q u (182 + 6 * b + (4 + 1)), cC cy (adT ad b q u) τ (182 + 6 * b + 5) ((nT σ b).1 (182 + 6 * b + (4 + 1))) ((nT σ b).2 (182 + 6 * b + 5)))]
  have c0 := cC_t0 cy (adT ad b q u) τ ((nT σ b).1 (182 + 6 * b + 0)) ((nT σ b).2 (182 + 6 * b + 0)) b
  rw [show 182 + 6 * b + 0 = 182 + 6 * b from rfl] at c0 ⊢
  rw [c0, cC_t1, cC_t2, cC_t3, cC_t4, cC_t5, a0, aj 0 (by decide), aj 1 (by decide), aj 2 (by decide), aj 3 (by decide), aj 4 (by decide), n0, nj 0 (by decide), nj 1 (by decide), nj 2 (by decide), nj 3 (by decide), nj 4 (by decide)]
  have f1 : oTB (adT ad b q u) (182 + 6 * b) tabI = [.int 0, .int 0, .int 1, .int 1, .int 0, .int 0, .int 0, .int 0, .ref (u 0 0), .ref (u 0 1), .ref (u 0 2), .ref (u 0 3), .ref (u 0 4)] := by
    unfold oTB
    rw [show 182 + 6 * b + 1 = 182 + 6 * b + (0 + 1) from rfl, show 182 + 6 * b + 2 = 182 + 6 * b + (1 + 1) from rfl, show 182 + 6 * b + 3 = 182 + 6 * b + (2 + 1) from rfl, show 182 + 6 * b + 4 = 182 + 6 * b + (3 + 1) from rfl, show 182 + 6 * b + 5 = 182 + 6 * b + (4 + 1) from rfl, aj 0 (by decide), aj 1 (by decide), aj 2 (by decide), aj 3 (by decide), aj 4 (by decide)]
    rfl
  rw [f1]
theorem tb_tau {cy : Nat → ClassId} {ad : Nat → Nat} {τ k : Nat} {g : Nat → Int32} {q : Nat → Int64} (e : k ≠ 42) : cC cy ad τ k g q = cC cy ad (τ + 1) k g q := by
  have hF : ∀ k : Nat, k < 44 → k ≠ 42 → cF cy ad τ k g q = cF cy ad (τ + 1) k g q := fun k hk e => match k, hk, e with
    | 0, _, _ => rfl
    | 1, _, _ => rfl
    | 2, _, _ => rfl
    | 3, _, _ => rfl
    | 4, _, _ => rfl
    | 5, _, _ => rfl
    | 6, _, _ => rfl
    | 7, _, _ => rfl
    | 8, _, _ => rfl
    | 9, _, _ => rfl
    | 10, _, _ => rfl
    | 11, _, _ => rfl
    | 12, _, _ => rfl
    | 13, _, _ => rfl
    | 14, _, _ => rfl
    | 15, _, _ => rfl
    | 16, _, _ => rfl
    | 17, _, _ => rfl
    | 18, _, _ => rfl
    | 19, _, _ => rfl
    | 20, _, _ => rfl
    | 21, _, _ => rfl
    | 22, _, _ => rfl
    | 23, _, _ => rfl
    | 24, _, _ => rfl
    | 25, _, _ => rfl
    | 26, _, _ => rfl
    | 27, _, _ => rfl
    | 28, _, _ => rfl
    | 29, _, _ => rfl
    | 30, _, _ => rfl
    | 31, _, _ => rfl
    | 32, _, _ => rfl
    | 33, _, _ => rfl
    | 34, _, _ => rfl
    | 35, _, _ => rfl
    | 36, _, _ => rfl
    | 37, _, _ => rfl
    | 38, _, _ => rfl
    | 39, _, _ => rfl
    | 40, _, _ => rfl
    | 41, _, _ => rfl
    | 42, _, e => absurd rfl e
    | 43, _, _ => rfl
    | k + 44, hk, _ => absurd hk (by omega)
  unfold cC
  by_cases h : k < 44
  · rw [if_pos h, if_pos h]; exact hF k h e
  · rw [if_neg h, if_neg h]
/-- one table more in the row of tables -/
theorem tb_ast {cy : Nat → ClassId} {ad : Nat → Nat} {τ nb : Nat} {σ : S2} {i : Int32} (hc : Int32.toNatClampNeg i = τ) : (wG (cC cy ad τ) ad (182 + 6 * nb) σ).set 42 (ad 42, .inl (cy 8, 10, .inr (.inr (.inr (.inr (fun j => if j = Int32.toNatClampNeg i then some (ad (182 + 6 * (τ + 1))) else if j < τ then some (ad (182 + 6 * (j + 1))) else none)))))) = wG (cC cy ad (τ + 1)) ad (182 + 6 * nb) σ := by
  apply List.ext_getElem?
  intro k
  by_cases hk : k < 182 + 6 * nb
  · by_cases e : k = 42
    · subst e
      rw [List.getElem?_set_self (by unfold wG; simpa using hk), wG_at hk, cC_42]
      have : (fun j => if j = Int32.toNatClampNeg i then some (ad (182 + 6 * (τ + 1))) else if j < τ then some (ad (182 + 6 * (j + 1))) else none) = (fun j => if j < τ + 1 then some (ad (182 + 6 * (j + 1))) else none) := by
        funext j
        rw [hc]
        by_cases e1 : j = τ
        · rw [if_pos e1, if_pos (by omega), e1]
        · rw [if_neg e1]
          by_cases e2 : j < τ
          · rw [if_pos e2, if_pos (by omega)]
          · rw [if_neg e2, if_neg (by omega)]
      rw [this]
    · rw [List.getElem?_set_ne (fun h => e h.symm), wG_at hk, wG_at hk, tb_tau e]
  · rw [List.getElem?_eq_none (by unfold wG; simpa using hk), List.getElem?_eq_none (by unfold wG; simpa using hk)]
theorem tb_astP {cy : Nat → ClassId} {ad : Nat → Nat} {τ nb : Nat} {σ : S2} {i : Int32} {D : va_G} {cl : List vw_C} {H : Heap} (hc : Int32.toNatClampNeg i = τ) (_ : τ < nb) (h : va_P D cl ((wG (cC cy ad τ) ad (182 + 6 * nb) σ).set 42 (ad 42, .inl (cy 8, 10, .inr (.inr (.inr (.inr (fun j => if j = Int32.toNatClampNeg i then some (ad (182 + 6 * (τ + 1))) else if j < τ then some (ad (182 + 6 * (j + 1))) else none))))))) H) : va_P D cl (wG (cC cy ad (τ + 1)) ad (182 + 6 * nb) σ) H := tb_ast (σ := σ) hc ▸ h
theorem tb_astD {cy : Nat → ClassId} {ad : Nat → Nat} {τ nb : Nat} {σ : S2} {i : Int32} {A : Nat → Prop} (hc : Int32.toNatClampNeg i = τ) (_ : τ < nb) (h : va_D A ((wG (cC cy ad τ) ad (182 + 6 * nb) σ).set 42 (ad 42, .inl (cy 8, 10, .inr (.inr (.inr (.inr (fun j => if j = Int32.toNatClampNeg i then some (ad (182 + 6 * (τ + 1))) else if j < τ then some (ad (182 + 6 * (j + 1))) else none)))))))) : va_D A (wG (cC cy ad (τ + 1)) ad (182 + 6 * nb) σ) := tb_ast (σ := σ) hc ▸ h
section UTB
variable {p : Program} {l : Launch} {e : Env} {R : Room} {s : State} {m : MethodId} {args : Array Value} {below : List Frame} {meth : Method} {c : Code} {H : Heap} {locs : List Loc} {pc : Nat} {ls : Array Slot} {cc : ByteArray} {dC : Nat → ClassId} {dI : Nat → Nat → Nat} {cy : Nat → ClassId} {ad : Nat → Nat} {τ nb : Nat} {σ σ9 : S2} {A : Nat → Prop} {δ : Nat}
theorem ux_iretT (hx : p.tables.exec = Jvm.exec) (hb : c.code = cc) (hr : meth.sig.returnType = some .int) {v r0 : Int32} (h : some (v, (0 : Nat), σ) = some (r0, δ, σ9)) (hP : va_P (dC, dI) vwCl (wG (cC cy ad τ) ad (182 + 6 * nb) σ) H) (hD : va_D A (wG (cC cy ad τ) ad (182 + 6 * nb) σ)) (hS : va_S A s.heap H locs) (hlocks : meth.locks = false) (hdg : decode cc pc = .ok (.ireturn, 1)) : W p l e R s m args below meth c H locs 0 0 (MQ below (QT dC dI cy ad τ nb r0 δ σ9 A) args s 6 2117 A) (F0 m pc ls [.int v]) := by
  cases h
  refine W.widen (k := 6) (n := 2117) (Nat.le_of_ble_eq_true rfl) (Nat.le_of_ble_eq_true rfl) ?_
  exact W.iret (v := v) hx hb hr (fun t ht hW => ⟨⟨v, ad, rfl, rfl, ⟨by rw [ht]; exact hP, hD⟩, fun _ _ => rfl⟩, hS.F ht⟩) hS.2.2 hdg
theorem ux_iretU {ad0 : Nat → Nat} (had : ∀ k, k < 182 + 6 * (τ + 1) → ad k = ad0 k) (hx : p.tables.exec = Jvm.exec) (hb : c.code = cc) (hr : meth.sig.returnType = some .int) {v r0 : Int32} (h : some (v, (1 : Nat), σ) = some (r0, δ, σ9)) (hP : va_P (dC, dI) vwCl (wG (cC cy ad (τ + 1)) ad (182 + 6 * (τ + 2)) σ) H) (hD : va_D A (wG (cC cy ad (τ + 1)) ad (182 + 6 * (τ + 2)) σ)) (hS : va_S A s.heap H locs) (hlocks : meth.locks = false) (hdg : decode cc pc = .ok (.ireturn, 1)) : W p l e R s m args below meth c H locs 6 2117 (MQ below (QT dC dI cy ad0 τ (τ + 1) r0 δ σ9 A) args s 6 2117 A) (F0 m pc ls [.int v]) := by
  cases h
  exact W.iret (v := v) hx hb hr (fun t ht hW => ⟨⟨v, ad, rfl, rfl, ⟨by rw [ht]; exact hP, hD⟩, had⟩, hS.F ht⟩) hS.2.2 hdg
end UTB
end
section
section WZ
variable {D : va_G} {cl : List vw_C} {A : Nat → Prop} {H : Heap} {X pl rs wr w1 p1 : va_W} {g : Nat × va_E}
theorem wz_eq : (X ++ (g :: rs)) ++ pl = (X ++ [g]) ++ (rs ++ pl) := by simp
theorem wz_eq0 : X ++ (g :: rs) = (X ++ [g]) ++ rs := by simp
theorem wz_eqJ : (wr ++ (w1 ++ p1)) ++ pl = (wr ++ w1) ++ (p1 ++ pl) := by simp
theorem wz_eqJ0 : wr ++ (w1 ++ p1) = (wr ++ w1) ++ p1 := by simp
theorem wz_eqK : (wr ++ w1) ++ pl = wr ++ (w1 ++ pl) := List.append_assoc _ _ _
theorem wz_KP (h : va_P D cl ((wr ++ w1) ++ pl) H) : va_P D cl (wr ++ (w1 ++ pl)) H := wz_eqK ▸ h
theorem wz_KD (h : va_D A ((wr ++ w1) ++ pl)) : va_D A (wr ++ (w1 ++ pl)) := wz_eqK ▸ h
theorem wz_P (h : va_P D cl ((X ++ pl) ++ (g :: rs)) H) : va_P D cl ((X ++ [g]) ++ (rs ++ pl)) H := wz_eq ▸ h.swap
theorem wz_D (h : va_D A ((X ++ pl) ++ (g :: rs))) : va_D A ((X ++ [g]) ++ (rs ++ pl)) := wz_eq ▸ h.swap
theorem wz_P0 (h : va_P D cl (X ++ (g :: rs)) H) : va_P D cl ((X ++ [g]) ++ rs) H := wz_eq0 ▸ h
theorem wz_D0 (h : va_D A (X ++ (g :: rs))) : va_D A ((X ++ [g]) ++ rs) := wz_eq0 ▸ h
theorem wz_JP (h : va_P D cl ((wr ++ (w1 ++ p1)) ++ pl) H) : va_P D cl ((wr ++ w1) ++ (p1 ++ pl)) H := wz_eqJ ▸ h
theorem wz_JD (h : va_D A ((wr ++ (w1 ++ p1)) ++ pl)) : va_D A ((wr ++ w1) ++ (p1 ++ pl)) := wz_eqJ ▸ h
theorem wz_JP0 (h : va_P D cl (wr ++ (w1 ++ p1)) H) : va_P D cl ((wr ++ w1) ++ p1) H := wz_eqJ0 ▸ h
theorem wz_JD0 (h : va_D A (wr ++ (w1 ++ p1))) : va_D A ((wr ++ w1) ++ p1) := wz_eqJ0 ▸ h
end WZ
section FILLint
variable {p : Program} {l : Launch} {e : Env} {R : Room} {s : State} {m : MethodId} {args : Array Value} {below : List Frame} {meth : Method} {c : Code} {locs : List Loc} {cells slots : Nat} {Q : State → Prop}
theorem fill_int_loop {D : va_G} {cy : Nat → ClassId} {A : Nat → Prop} {a n : Nat} {v : Int32} {H0 : Heap} (hn : n < 2 ^ 31) (hx : p.tables.exec = Jvm.exec) (hb : c.code = cJ7_fill_53178) (hK : va_K D vwCl (tyl cy) s)
    (kx : ∀ (g : Nat → Int32) (H : Heap) (locs : List Loc) (ls : Array Slot), (∀ j, j < n → g j = v) → va_P D vwCl [(a, .inl (cy 0, n, .inl g))] H → va_D A [(a, .inl (cy 0, n, .inl g))] → va_S A H0 H locs → W p l e R s m args below meth c H locs cells slots Q (F0 m 20 ls [])) :
    ∀ (k i : Nat) (g : Nat → Int32) (H : Heap) (locs : List Loc) (ls : Array Slot), i + k = n → (∀ j, j < i → g j = v) → va_P D vwCl [(a, .inl (cy 0, n, .inl g))] H → va_D A [(a, .inl (cy 0, n, .inl g))] → va_S A H0 H locs → lv_has ls 4 [(2, .int (nI i)), (3, .int (nI n)), (0, .ref a), (1, .int v)] → W p l e R s m args below meth c H locs cells slots Q (F0 m 5 ls []) := by
  intro k
  induction k with
  | zero =>
    intro i g H locs ls hi hg hP hD hS hl
    refine lv_iload_n hx hb dJ7_fill_53178_5 rfl (lv_at hl 0 rfl) ?_
    refine lv_iload_n hx hb dJ7_fill_53178_6 rfl (lv_at hl 1 rfl) ?_
    refine lv_icmp_ge (tgt := 20) hx hb dJ7_fill_53178_7 (by decide) (fun c1 => ?_) (fun c1 => absurd (nI_le (by omega) (by omega)) c1)
    exact kx g H locs ls (fun j hj => hg j (by omega)) hP hD hS
  | succ k ih =>
    intro i g H locs ls hi hg hP hD hS hl
    refine lv_iload_n hx hb dJ7_fill_53178_5 rfl (lv_at hl 0 rfl) ?_
    refine lv_iload_n hx hb dJ7_fill_53178_6 rfl (lv_at hl 1 rfl) ?_
    refine lv_icmp_ge (tgt := 20) hx hb dJ7_fill_53178_7 (by decide) (fun c1 => absurd c1 (nI_ge (by omega) hn)) (fun c1 => ?_)
    refine lv_aload_n hx hb dJ7_fill_53178_10 rfl (lv_at hl 2 rfl) ?_
    refine lv_iload_n hx hb dJ7_fill_53178_11 rfl (lv_at hl 0 rfl) ?_
    refine lv_iload_n hx hb dJ7_fill_53178_12 rfl (lv_at hl 3 rfl) ?_
    refine va_iast hx hb hK hP hD hS 0 0 rfl rfl (vp_in_nI (n := i) (by omega) hn) dJ7_fill_53178_13 (fun H locs hP hD hS => ?_)
    refine lv_iinc (v := nI (i + 1)) (lv' := [(2, .int (nI (i + 1))), (3, .int (nI n)), (0, .ref a), (1, .int v)]) hx hb dJ7_fill_53178_14 hl (k := 0) rfl (nI_1 i) (by decide) rfl (fun ls hl => ?_)
    refine lv_goto (tgt := 5) hx hb dJ7_fill_53178_17 (by decide) ?_
    refine ih (i + 1) (upd g (nI i).toNatClampNeg v) H locs ls (by omega) (fun j hj => ?_) hP hD hS hl
    rw [nI_clamp (by omega)]
    by_cases h9 : j = i
    · simp [upd, h9]
    · simp [upd, h9]
      exact hg j (by omega)
end FILLint
theorem vz_arr_i {D : va_G} {cl : List vw_C} {H : Heap} {a n : Nat} {cA : ClassId} {f g : Nat → Int32} (h : ∀ j, j < n → f j = g j) (hP : va_P D cl [(a, .inl (cA, n, .inl f))] H) : va_P D cl [(a, .inl (cA, n, .inl g))] H := by
  intro k q hq
  have h0 : k < 1 := (List.getElem?_eq_some_iff.mp hq).1
  obtain rfl : k = 0 := by omega
  cases hq
  have h1 : H[a]? = some (vp_cell cA (n, .inl f)) := hP 0 _ rfl
  show H[a]? = some (vp_cell cA (n, .inl g))
  rw [h1]
  show some (arrV cA n (fun j => Value.int (f j))) = some (arrV cA n (fun j => Value.int (g j)))
  unfold arrV
  have h3 : (fun j : Fin n => Value.int (f j.val)) = (fun j : Fin n => Value.int (g j.val)) := funext fun j => congrArg Value.int (h j.val j.isLt)
  rw [h3]
theorem vz_arr_D_i {A : Nat → Prop} {a n : Nat} {cA : ClassId} {f g : Nat → Int32} (hD : va_D A [(a, .inl (cA, n, .inl f))]) : va_D A [(a, .inl (cA, n, .inl g))] := by
  refine ⟨fun i j p q hi hj _ => ?_, fun k q hk => ?_⟩
  · have h1 : i < 1 := (List.getElem?_eq_some_iff.mp hi).1
    have h2 : j < 1 := (List.getElem?_eq_some_iff.mp hj).1
    omega
  · have h1 : k < 1 := (List.getElem?_eq_some_iff.mp hk).1
    obtain rfl : k = 0 := by omega
    cases hk
    exact hD.2 0 (a, .inl (cA, n, .inl f)) rfl
set_option maxHeartbeats 4000000 in
set_option maxRecDepth 100000 in
theorem c_fill_int (l : Launch) (dC : Nat → ClassId) (dI : Nat → Nat → Nat) (cy : Nat → ClassId) (a n : Nat) (f : Nat → Int32) (v : Int32) (sz : Nat) (hn : n < 2 ^ 31) : Met l yJ7_fill_53178 wsJ7_fill_53178 ({ frames := 1, cells := 0, slots := 0, locals := 23 }) (va_Pc [.ref a, .int v] (wPre (dC, dI) cy [(a, .inl (cy 0, n, .inl f))] sz)) (va_Qv (fun (u : Unit) => True) (fun (u : Unit) t => wAt (dC, dI) (va_A [(a, .inl (cy 0, n, .inl f))] sz) [(a, .inl (cy 0, n, .inl (fun _ => v)))] t) (va_A [(a, .inl (cy 0, n, .inl f))] sz)) 0 0 (va_A [(a, .inl (cy 0, n, .inl f))] sz) := by
  refine Met.ofW (cc := cJ7_fill_53178) (maxL := 4) (ret := none) (by decide) rfl ?_
  intro p e s m args below meth c s₁ B hml hv
  obtain ⟨rfl, hsz, hP, hK, hD0, hN⟩ := hv
  have hx := B.exec
  have hb := B.bytes
  have hr := B.returns
  have hlocks := B.notSynchronized
  subst hsz
  have hD := hD0.self (sz := s.heap.size)
  generalize hAe : va_A [(a, .inl (cy 0, n, .inl f))] s.heap.size = A at hD ⊢
  have hS : va_S A s.heap s.heap [] := va_S.rf
  have hl := lv_entry ([.ref a, .int v]) (n := 4) (Nat.le_of_ble_eq_true rfl)
  rw [lg_entry_eq]
  generalize (lg_sl ([.ref a, .int v]) ++ List.replicate (4 - (lg_sl ([.ref a, .int v])).length) Slot.unset).toArray = ls at hl ⊢
  have hl : lv_has ls 4 [(0, .ref a), (1, .int v)] := hl
  refine lv_iconst (v := 0) hx hb dJ7_fill_53178_0 (by decide) ?_
  refine lv_istore_n (lv' := [(2, .int 0), (0, .ref a), (1, .int v)]) hx hb dJ7_fill_53178_1 rfl hl (by decide) rfl (fun ls hl => ?_)
  refine lv_aload_n hx hb dJ7_fill_53178_2 rfl (lv_at hl 1 rfl) ?_
  refine va_alen (v := nI n) hx hb hK hP 0 0 rfl rfl rfl dJ7_fill_53178_3 ?_
  refine lv_istore_n (lv' := [(3, .int (nI n)), (2, .int 0), (0, .ref a), (1, .int v)]) hx hb dJ7_fill_53178_4 rfl hl (by decide) rfl (fun ls hl => ?_)
  refine fill_int_loop (D := (dC, dI)) (A := A) (H0 := s.heap) (v := v) hn hx hb hK (fun g H locs ls hg hP hD hS => ?_) n 0 f s.heap [] ls (by omega) (fun j hj => absurd hj (by omega)) hP hD hS (lv_sub hl [1, 0, 2, 3] rfl)
  have hP9 := vz_arr_i (g := fun _ => v) hg hP
  have hD9 := vz_arr_D_i (g := fun _ => v) hD
  exact W.vret hx hb hr (fun t ht hW => ⟨⟨(), rfl, trivial, ⟨by rw [ht]; exact hP9, hD9⟩⟩, hS.F ht⟩) hS.2.2 dJ7_fill_53178_20
end
section
set_option maxHeartbeats 4000000 in
set_option maxRecDepth 100000 in
theorem i_Tape (l : Launch) (dC : Nat → ClassId) (dI : Nat → Nat → Nat) (cy : Nat → ClassId) (h0 : Nat) (sz : Nat)  : Met l yX9_init wsX9_init ({ frames := 1, cells := 1, slots := 80, locals := 23 }) (va_Pc [.ref h0] (wPre (dC, dI) cy [(h0, .inr (9, [.null, .int 0]))] sz)) (va_Qv (fun (u : Nat → Nat → Nat) => True) (fun (u : Nat → Nat → Nat) t => wAt (dC, dI) (va_A [(h0, .inr (9, [.null, .int 0]))] sz) [(h0, .inr (9, [.ref (u 0 0), .int 0])), ((u 0 0), .inl (cy 1, 80, .inl (fun _ => 0)))] t) (va_A [(h0, .inr (9, [.null, .int 0]))] sz)) 1 80 (va_A [(h0, .inr (9, [.null, .int 0]))] sz) := by
  refine Met.ofW (cc := cX9_init) (maxL := 1) (ret := none) (by decide) rfl ?_
  intro p e s m args below meth c s₁ B hml hv
  obtain ⟨rfl, hsz, hP, hK, hD0, hN⟩ := hv
  have hx := B.exec
  have hb := B.bytes
  have hr := B.returns
  have hts := atoms_spec (ws := wsX9_init) B.pre
  have hown : s.vm.findClass RX9 = some m.cls := findClass_of_methodNamed B.named
  have hlocks := B.notSynchronized
  subst hsz
  have hin : meth.name = "<init>" := (name_of_methodNamed B.named B.method).1
  have hD := hD0.self (sz := s.heap.size)
  generalize hAe : va_A [(h0, .inr (9, [.null, .int 0]))] s.heap.size = A at hD ⊢
  have hA : ∀ q : Nat, s.heap.size ≤ q → A q := fun q h => by rw [← hAe]; exact Or.inr h
  have hS : va_S A s.heap s.heap [] := va_S.rf
  have hl := lv_entry ([.ref h0]) (n := 1) (Nat.le_of_ble_eq_true rfl)
  rw [lg_entry_eq]
  generalize (lg_sl ([.ref h0]) ++ List.replicate (1 - (lg_sl ([.ref h0])).length) Slot.unset).toArray = ls at hl ⊢
  have hl : lv_has ls 1 [(0, .ref h0)] := hl
  refine lv_aload_n hx hb dX9_init_0 rfl (lv_at hl 0 rfl) ?_
  refine W.objInit hx hb hown (hts (.methodLink RX9 3 objectInit) (List.mem_of_getElem? (i := 1) rfl)) (hts (.instanceMethod objectInit) (List.mem_of_getElem? (i := 2) rfl)) (hts (.code objectInit ⟨#[0xb1]⟩ 1 none) (List.mem_of_getElem? (i := 3) rfl)) rfl (hl.1.trans hml.symm) rfl dX9_init_1 (Nat.le_of_ble_eq_true rfl) (Nat.le_of_ble_eq_true rfl) ?_
  refine lv_aload_n hx hb dX9_init_4 rfl (lv_at hl 0 rfl) ?_
  refine lv_bipush (v := 80) hx hb dX9_init_5 (by decide) ?_
  refine vz_newa (atype := .byte) (ty := .byte) (t0 := 1) (N' := 80) (a0 := (80, .inl (fun _ => 0))) hx hb (hts (.arrayClass .byte) (List.mem_of_getElem? (i := 4) rfl)) rfl rfl hK hP hD hS hA (fun _ => rfl) (by decide) rfl (by decide) (Nat.le_of_ble_eq_true rfl) (Nat.le_of_ble_eq_true rfl) dX9_init_7 (fun q_1 H hP hD hS => ?_)
  have hP : va_P (dC, dI) vwCl [(h0, .inr (9, [.null, .int 0])), (q_1, .inl (cy 1, 80, .inl (fun _ => 0)))] H := hP
  have hD : va_D A [(h0, .inr (9, [.null, .int 0])), (q_1, .inl (cy 1, 80, .inl (fun _ => 0)))] := hD
  refine W.widen (k := 1) (n := 80) (Nat.le_of_ble_eq_true rfl) (Nat.le_of_ble_eq_true rfl) ?_
  refine va_putF (D := (dC, dI)) (ci := 9) (v := .ref q_1) (C := RX9) (T := TX9) (N := 2) hx hb hts (fun _ h9 => List.mem_cons_of_mem _ (List.mem_append_right _ h9)) tyX9 tyX9_ok nmX9 hown hK hP hD hS 0 rfl rfl 0 (by decide) (hts (.fieldLink RX9 9 "SeatsRound$Tape" "bytes" "[B") (List.mem_of_getElem? (i := 5) rfl)) (fun _ h9 => h9) rfl hin rfl (tyX9_ok 0 (by decide)) rfl rfl (Nat.le_of_ble_eq_true rfl) dX9_init_9 (fun H locs hP hD hS => ?_)
  have hP : va_P (dC, dI) vwCl [(h0, .inr (9, [.ref q_1, .int 0])), (q_1, .inl (cy 1, 80, .inl (fun _ => 0)))] H := hP
  have hD : va_D A [(h0, .inr (9, [.ref q_1, .int 0])), (q_1, .inl (cy 1, 80, .inl (fun _ => 0)))] := hD
  refine lv_aload_n hx hb dX9_init_12 rfl (lv_at hl 0 rfl) ?_
  change W _ _ _ _ _ _ _ _ _ _ _ _ _ _ _ (F0 m 13 ls [.ref h0])
  refine lv_iconst (v := 0) hx hb dX9_init_13 (by decide) ?_
  refine va_put (D := (dC, dI)) (ci := 9) (v := .int 0) (C := RX9) (T := TX9) (N := 2) hx hb hts (fun _ h9 => List.mem_cons_of_mem _ (List.mem_append_right _ h9)) tyX9 tyX9_ok nmX9 hown hK hP hD hS 0 rfl rfl 1 (by decide) (hts (.fieldLink RX9 15 "SeatsRound$Tape" "length" "I") (List.mem_of_getElem? (i := 6) rfl)) (fun _ h9 => h9) rfl (tyX9_ok 1 (by decide)) rfl rfl (Nat.le_of_ble_eq_true rfl) dX9_init_14 (fun H locs hP hD hS => ?_)
  have hP : va_P (dC, dI) vwCl [(h0, .inr (9, [.ref q_1, .int 0])), (q_1, .inl (cy 1, 80, .inl (fun _ => 0)))] H := hP
  have hD : va_D A [(h0, .inr (9, [.ref q_1, .int 0])), (q_1, .inl (cy 1, 80, .inl (fun _ => 0)))] := hD
  exact W.vret hx hb hr (fun t ht hW => ⟨⟨(fun k => [(fun j => [q_1].getD j 0)].getD k (fun _ => 0)), rfl, trivial, ⟨by rw [ht]; exact hP, hD⟩⟩, hS.F ht⟩) hS.2.2 dX9_init_17
set_option maxHeartbeats 4000000 in
set_option maxRecDepth 100000 in
theorem i_NameList (l : Launch) (dC : Nat → ClassId) (dI : Nat → Nat → Nat) (cy : Nat → ClassId) (h0 : Nat) (sz : Nat)  : Met l yX4_init wsX4_init ({ frames := 1, cells := 43, slots := 326, locals := 23 }) (va_Pc [.ref h0] (wPre (dC, dI) cy [(h0, .inr (4, [.null, .null, .null, .int 0]))] sz)) (va_Qv (fun (u : Nat → Nat → Nat) => True) (fun (u : Nat → Nat → Nat) t => wAt (dC, dI) (va_A [(h0, .inr (4, [.null, .null, .null, .int 0]))] sz) (([(h0, .inr (4, [.ref (u 0 0), .ref (u 0 1), .ref (u 0 2), .int 0])), ((u 0 0), .inl (cy 5, 40, .inr (.inr (.inr (.inr (fun i => if i < 40 then some ((u 1) i) else none)))))), ((u 0 1), .inl (cy 0, 40, .inl (fun _ => 0))), ((u 0 2), .inl (cy 1, 6, .inl (fun _ => 0)))] : va_W) ++ ((List.range 40).map (fun i => (((u 1) i, .inl (cy 1, 6, .inl (fun _ => 0))) : Nat × va_E)))) t) (va_A [(h0, .inr (4, [.null, .null, .null, .int 0]))] sz)) 43 326 (va_A [(h0, .inr (4, [.null, .null, .null, .int 0]))] sz) := by
  refine Met.ofW (cc := cX4_init) (maxL := 1) (ret := none) (by decide) rfl ?_
  intro p e s m args below meth c s₁ B hml hv
  obtain ⟨rfl, hsz, hP, hK, hD0, hN⟩ := hv
  have hx := B.exec
  have hb := B.bytes
  have hr := B.returns
  have hts := atoms_spec (ws := wsX4_init) B.pre
  have hown : s.vm.findClass RX4 = some m.cls := findClass_of_methodNamed B.named
  have hlocks := B.notSynchronized
  subst hsz
  have hin : meth.name = "<init>" := (name_of_methodNamed B.named B.method).1
  have hD := hD0.self (sz := s.heap.size)
  generalize hAe : va_A [(h0, .inr (4, [.null, .null, .null, .int 0]))] s.heap.size = A at hD ⊢
  have hA : ∀ q : Nat, s.heap.size ≤ q → A q := fun q h => by rw [← hAe]; exact Or.inr h
  have hS : va_S A s.heap s.heap [] := va_S.rf
  have hl := lv_entry ([.ref h0]) (n := 1) (Nat.le_of_ble_eq_true rfl)
  rw [lg_entry_eq]
  generalize (lg_sl ([.ref h0]) ++ List.replicate (1 - (lg_sl ([.ref h0])).length) Slot.unset).toArray = ls at hl ⊢
  have hl : lv_has ls 1 [(0, .ref h0)] := hl
  refine lv_aload_n hx hb dX4_init_0 rfl (lv_at hl 0 rfl) ?_
  refine W.objInit hx hb hown (hts (.methodLink RX4 3 objectInit) (List.mem_of_getElem? (i := 1) rfl)) (hts (.instanceMethod objectInit) (List.mem_of_getElem? (i := 2) rfl)) (hts (.code objectInit ⟨#[0xb1]⟩ 1 none) (List.mem_of_getElem? (i := 3) rfl)) rfl (hl.1.trans hml.symm) rfl dX4_init_1 (Nat.le_of_ble_eq_true rfl) (Nat.le_of_ble_eq_true rfl) ?_
  refine lv_aload_n hx hb dX4_init_4 rfl (lv_at hl 0 rfl) ?_
  refine lv_bipush (v := 40) hx hb dX4_init_5 (by decide) ?_
  change W _ _ _ _ _ _ _ _ _ _ _ _ _ _ _ (F0 m 7 ls [.int 40, .ref h0])
  refine lv_bipush (v := 6) hx hb dX4_init_7 (by decide) ?_
  refine vz_mna (t0 := 5) (t1 := 1) (N' := 40) (K' := 6) (z := (6, .inl (fun _ => 0))) (ty := .byte) hx hb hown (hts (.classLink RX4 9 "[[B") (List.mem_of_getElem? (i := 4) rfl)) hN.2.2.1 (hts (.arrayClass .byte) (List.mem_of_getElem? (i := 5) rfl)) rfl (hK.2 1 _ rfl).2 hK hP hD hS hA (by decide) (by decide) rfl rfl (by decide) (by decide) (by decide) rfl rfl (Nat.le_of_ble_eq_true rfl) (Nat.le_of_ble_eq_true rfl) (fun _ => rfl) dX4_init_9 (fun q_1 r_2 H hP hD hS => ?_)
  have hP := wz_P0 hP
  have hD := wz_D0 hD
  have hP : va_P (dC, dI) vwCl (([(h0, .inr (4, [.null, .null, .null, .int 0])), (q_1, .inl (cy 5, 40, .inr (.inr (.inr (.inr (fun i => if i < 40 then some (r_2 i) else none))))))] : va_W) ++ ((List.range 40).map (fun i => ((r_2 i, .inl (cy 1, 6, .inl (fun _ => 0))) : Nat × va_E)))) H := hP
  have hD : va_D A (([(h0, .inr (4, [.null, .null, .null, .int 0])), (q_1, .inl (cy 5, 40, .inr (.inr (.inr (.inr (fun i => if i < 40 then some (r_2 i) else none))))))] : va_W) ++ ((List.range 40).map (fun i => ((r_2 i, .inl (cy 1, 6, .inl (fun _ => 0))) : Nat × va_E)))) := hD
  refine W.widen (k := 41) (n := 280) (Nat.le_of_ble_eq_true rfl) (Nat.le_of_ble_eq_true rfl) ?_
  refine va_putF (D := (dC, dI)) (ci := 4) (v := .ref q_1) (C := RX4) (T := TX4) (N := 4) hx hb hts (fun _ h9 => List.mem_cons_of_mem _ (List.mem_append_right _ h9)) tyX4 tyX4_ok nmX4 hown hK hP hD hS 0 rfl rfl 0 (by decide) (hts (.fieldLink RX4 11 "SeatsRound$NameList" "bytes" "[[B") (List.mem_of_getElem? (i := 6) rfl)) (fun _ h9 => h9) rfl hin rfl (tyX4_ok 0 (by decide)) rfl rfl (Nat.le_of_ble_eq_true rfl) dX4_init_13 (fun H locs hP hD hS => ?_)
  have hP : va_P (dC, dI) vwCl (([(h0, .inr (4, [.ref q_1, .null, .null, .int 0])), (q_1, .inl (cy 5, 40, .inr (.inr (.inr (.inr (fun i => if i < 40 then some (r_2 i) else none))))))] : va_W) ++ ((List.range 40).map (fun i => ((r_2 i, .inl (cy 1, 6, .inl (fun _ => 0))) : Nat × va_E)))) H := hP
  have hD : va_D A (([(h0, .inr (4, [.ref q_1, .null, .null, .int 0])), (q_1, .inl (cy 5, 40, .inr (.inr (.inr (.inr (fun i => if i < 40 then some (r_2 i) else none))))))] : va_W) ++ ((List.range 40).map (fun i => ((r_2 i, .inl (cy 1, 6, .inl (fun _ => 0))) : Nat × va_E)))) := hD
  refine lv_aload_n hx hb dX4_init_16 rfl (lv_at hl 0 rfl) ?_
  refine lv_bipush (v := 40) hx hb dX4_init_17 (by decide) ?_
  refine vz_newa (atype := .int) (ty := .int) (t0 := 0) (N' := 40) (a0 := (40, .inl (fun _ => 0))) hx hb (hts (.arrayClass .int) (List.mem_of_getElem? (i := 7) rfl)) rfl rfl hK hP hD hS hA (fun _ => rfl) (by decide) rfl (by decide) (Nat.le_of_ble_eq_true rfl) (Nat.le_of_ble_eq_true rfl) dX4_init_19 (fun q_3 H hP hD hS => ?_)
  have hP := va_P.swap hP
  have hD := va_D.swap hD
  have hP : va_P (dC, dI) vwCl (([(h0, .inr (4, [.ref q_1, .null, .null, .int 0])), (q_1, .inl (cy 5, 40, .inr (.inr (.inr (.inr (fun i => if i < 40 then some (r_2 i) else none)))))), (q_3, .inl (cy 0, 40, .inl (fun _ => 0)))] : va_W) ++ ((List.range 40).map (fun i => ((r_2 i, .inl (cy 1, 6, .inl (fun _ => 0))) : Nat × va_E)))) H := hP
  have hD : va_D A (([(h0, .inr (4, [.ref q_1, .null, .null, .int 0])), (q_1, .inl (cy 5, 40, .inr (.inr (.inr (.inr (fun i => if i < 40 then some (r_2 i) else none)))))), (q_3, .inl (cy 0, 40, .inl (fun _ => 0)))] : va_W) ++ ((List.range 40).map (fun i => ((r_2 i, .inl (cy 1, 6, .inl (fun _ => 0))) : Nat × va_E)))) := hD
  refine W.widen (k := 42) (n := 320) (Nat.le_of_ble_eq_true rfl) (Nat.le_of_ble_eq_true rfl) ?_
  refine va_putF (D := (dC, dI)) (ci := 4) (v := .ref q_3) (C := RX4) (T := TX4) (N := 4) hx hb hts (fun _ h9 => List.mem_cons_of_mem _ (List.mem_append_right _ h9)) tyX4 tyX4_ok nmX4 hown hK hP hD hS 0 rfl rfl 1 (by decide) (hts (.fieldLink RX4 16 "SeatsRound$NameList" "size" "[I") (List.mem_of_getElem? (i := 8) rfl)) (fun _ h9 => h9) rfl hin rfl (tyX4_ok 1 (by decide)) rfl rfl (Nat.le_of_ble_eq_true rfl) dX4_init_21 (fun H locs hP hD hS => ?_)
  have hP : va_P (dC, dI) vwCl (([(h0, .inr (4, [.ref q_1, .ref q_3, .null, .int 0])), (q_1, .inl (cy 5, 40, .inr (.inr (.inr (.inr (fun i => if i < 40 then some (r_2 i) else none)))))), (q_3, .inl (cy 0, 40, .inl (fun _ => 0)))] : va_W) ++ ((List.range 40).map (fun i => ((r_2 i, .inl (cy 1, 6, .inl (fun _ => 0))) : Nat × va_E)))) H := hP
  have hD : va_D A (([(h0, .inr (4, [.ref q_1, .ref q_3, .null, .int 0])), (q_1, .inl (cy 5, 40, .inr (.inr (.inr (.inr (fun i => if i < 40 then some (r_2 i) else none)))))), (q_3, .inl (cy 0, 40, .inl (fun _ => 0)))] : va_W) ++ ((List.range 40).map (fun i => ((r_2 i, .inl (cy 1, 6, .inl (fun _ => 0))) : Nat × va_E)))) := hD
  refine lv_aload_n hx hb dX4_init_24 rfl (lv_at hl 0 rfl) ?_
  change W _ _ _ _ _ _ _ _ _ _ _ _ _ _ _ (F0 m 25 ls [.ref h0])
  refine lv_bipush (v := 6) hx hb dX4_init_25 (by decide) ?_
  refine vz_newa (atype := .byte) (ty := .byte) (t0 := 1) (N' := 6) (a0 := (6, .inl (fun _ => 0))) hx hb (hts (.arrayClass .byte) (List.mem_of_getElem? (i := 5) rfl)) rfl rfl hK hP hD hS hA (fun _ => rfl) (by decide) rfl (by decide) (Nat.le_of_ble_eq_true rfl) (Nat.le_of_ble_eq_true rfl) dX4_init_27 (fun q_4 H hP hD hS => ?_)
  have hP := va_P.swap hP
  have hD := va_D.swap hD
  have hP : va_P (dC, dI) vwCl (([(h0, .inr (4, [.ref q_1, .ref q_3, .null, .int 0])), (q_1, .inl (cy 5, 40, .inr (.inr (.inr (.inr (fun i => if i < 40 then some (r_2 i) else none)))))), (q_3, .inl (cy 0, 40, .inl (fun _ => 0))), (q_4, .inl (cy 1, 6, .inl (fun _ => 0)))] : va_W) ++ ((List.range 40).map (fun i => ((r_2 i, .inl (cy 1, 6, .inl (fun _ => 0))) : Nat × va_E)))) H := hP
  have hD : va_D A (([(h0, .inr (4, [.ref q_1, .ref q_3, .null, .int 0])), (q_1, .inl (cy 5, 40, .inr (.inr (.inr (.inr (fun i => if i < 40 then some (r_2 i) else none)))))), (q_3, .inl (cy 0, 40, .inl (fun _ => 0))), (q_4, .inl (cy 1, 6, .inl (fun _ => 0)))] : va_W) ++ ((List.range 40).map (fun i => ((r_2 i, .inl (cy 1, 6, .inl (fun _ => 0))) : Nat × va_E)))) := hD
  refine W.widen (k := 43) (n := 326) (Nat.le_of_ble_eq_true rfl) (Nat.le_of_ble_eq_true rfl) ?_
  refine va_putF (D := (dC, dI)) (ci := 4) (v := .ref q_4) (C := RX4) (T := TX4) (N := 4) hx hb hts (fun _ h9 => List.mem_cons_of_mem _ (List.mem_append_right _ h9)) tyX4 tyX4_ok nmX4 hown hK hP hD hS 0 rfl rfl 2 (by decide) (hts (.fieldLink RX4 20 "SeatsRound$NameList" "read" "[B") (List.mem_of_getElem? (i := 9) rfl)) (fun _ h9 => h9) rfl hin rfl (tyX4_ok 2 (by decide)) rfl rfl (Nat.le_of_ble_eq_true rfl) dX4_init_29 (fun H locs hP hD hS => ?_)
  have hP : va_P (dC, dI) vwCl (([(h0, .inr (4, [.ref q_1, .ref q_3, .ref q_4, .int 0])), (q_1, .inl (cy 5, 40, .inr (.inr (.inr (.inr (fun i => if i < 40 then some (r_2 i) else none)))))), (q_3, .inl (cy 0, 40, .inl (fun _ => 0))), (q_4, .inl (cy 1, 6, .inl (fun _ => 0)))] : va_W) ++ ((List.range 40).map (fun i => ((r_2 i, .inl (cy 1, 6, .inl (fun _ => 0))) : Nat × va_E)))) H := hP
  have hD : va_D A (([(h0, .inr (4, [.ref q_1, .ref q_3, .ref q_4, .int 0])), (q_1, .inl (cy 5, 40, .inr (.inr (.inr (.inr (fun i => if i < 40 then some (r_2 i) else none)))))), (q_3, .inl (cy 0, 40, .inl (fun _ => 0))), (q_4, .inl (cy 1, 6, .inl (fun _ => 0)))] : va_W) ++ ((List.range 40).map (fun i => ((r_2 i, .inl (cy 1, 6, .inl (fun _ => 0))) : Nat × va_E)))) := hD
  refine lv_aload_n hx hb dX4_init_32 rfl (lv_at hl 0 rfl) ?_
  refine lv_iconst (v := 0) hx hb dX4_init_33 (by decide) ?_
  refine va_put (D := (dC, dI)) (ci := 4) (v := .int 0) (C := RX4) (T := TX4) (N := 4) hx hb hts (fun _ h9 => List.mem_cons_of_mem _ (List.mem_append_right _ h9)) tyX4 tyX4_ok nmX4 hown hK hP hD hS 0 rfl rfl 3 (by decide) (hts (.fieldLink RX4 24 "SeatsRound$NameList" "count" "I") (List.mem_of_getElem? (i := 10) rfl)) (fun _ h9 => h9) rfl (tyX4_ok 3 (by decide)) rfl rfl (Nat.le_of_ble_eq_true rfl) dX4_init_34 (fun H locs hP hD hS => ?_)
  have hP : va_P (dC, dI) vwCl (([(h0, .inr (4, [.ref q_1, .ref q_3, .ref q_4, .int 0])), (q_1, .inl (cy 5, 40, .inr (.inr (.inr (.inr (fun i => if i < 40 then some (r_2 i) else none)))))), (q_3, .inl (cy 0, 40, .inl (fun _ => 0))), (q_4, .inl (cy 1, 6, .inl (fun _ => 0)))] : va_W) ++ ((List.range 40).map (fun i => ((r_2 i, .inl (cy 1, 6, .inl (fun _ => 0))) : Nat × va_E)))) H := hP
  have hD : va_D A (([(h0, .inr (4, [.ref q_1, .ref q_3, .ref q_4, .int 0])), (q_1, .inl (cy 5, 40, .inr (.inr (.inr (.inr (fun i => if i < 40 then some (r_2 i) else none)))))), (q_3, .inl (cy 0, 40, .inl (fun _ => 0))), (q_4, .inl (cy 1, 6, .inl (fun _ => 0)))] : va_W) ++ ((List.range 40).map (fun i => ((r_2 i, .inl (cy 1, 6, .inl (fun _ => 0))) : Nat × va_E)))) := hD
  exact W.vret hx hb hr (fun t ht hW => ⟨⟨(fun k => [(fun j => [q_1, q_3, q_4].getD j 0), r_2].getD k (fun _ => 0)), rfl, trivial, ⟨by rw [ht]; exact hP, hD⟩⟩, hS.F ht⟩) hS.2.2 dX4_init_37
set_option maxHeartbeats 4000000 in
set_option maxRecDepth 100000 in
theorem i_Keepers (l : Launch) (dC : Nat → ClassId) (dI : Nat → Nat → Nat) (cy : Nat → ClassId) (h0 : Nat) (sz : Nat)  : Met l yX2_init wsX2_init ({ frames := 1, cells := 5, slots := 60, locals := 23 }) (va_Pc [.ref h0] (wPre (dC, dI) cy [(h0, .inr (2, [.null, .null, .null, .null, .null, .int 0]))] sz)) (va_Qv (fun (u : Nat → Nat → Nat) => True) (fun (u : Nat → Nat → Nat) t => wAt (dC, dI) (va_A [(h0, .inr (2, [.null, .null, .null, .null, .null, .int 0]))] sz) [(h0, .inr (2, [.ref (u 0 0), .ref (u 0 1), .ref (u 0 2), .ref (u 0 3), .ref (u 0 4), .int 0])), ((u 0 0), .inl (cy 0, 12, .inl (fun _ => 0))), ((u 0 1), .inl (cy 0, 12, .inl (fun _ => 0))), ((u 0 2), .inl (cy 0, 12, .inl (fun _ => 0))), ((u 0 3), .inl (cy 0, 12, .inl (fun _ => 0))), ((u 0 4), .inl (cy 2, 12, .inl (fun _ => 0)))] t) (va_A [(h0, .inr (2, [.null, .null, .null, .null, .null, .int 0]))] sz)) 5 60 (va_A [(h0, .inr (2, [.null, .null, .null, .null, .null, .int 0]))] sz) := by
  refine Met.ofW (cc := cX2_init) (maxL := 1) (ret := none) (by decide) rfl ?_
  intro p e s m args below meth c s₁ B hml hv
  obtain ⟨rfl, hsz, hP, hK, hD0, hN⟩ := hv
  have hx := B.exec
  have hb := B.bytes
  have hr := B.returns
  have hts := atoms_spec (ws := wsX2_init) B.pre
  have hown : s.vm.findClass RX2 = some m.cls := findClass_of_methodNamed B.named
  have hlocks := B.notSynchronized
  subst hsz
  have hin : meth.name = "<init>" := (name_of_methodNamed B.named B.method).1
  have hD := hD0.self (sz := s.heap.size)
  generalize hAe : va_A [(h0, .inr (2, [.null, .null, .null, .null, .null, .int 0]))] s.heap.size = A at hD ⊢
  have hA : ∀ q : Nat, s.heap.size ≤ q → A q := fun q h => by rw [← hAe]; exact Or.inr h
  have hS : va_S A s.heap s.heap [] := va_S.rf
  have hl := lv_entry ([.ref h0]) (n := 1) (Nat.le_of_ble_eq_true rfl)
  rw [lg_entry_eq]
  generalize (lg_sl ([.ref h0]) ++ List.replicate (1 - (lg_sl ([.ref h0])).length) Slot.unset).toArray = ls at hl ⊢
  have hl : lv_has ls 1 [(0, .ref h0)] := hl
  refine lv_aload_n hx hb dX2_init_0 rfl (lv_at hl 0 rfl) ?_
  change W _ _ _ _ _ _ _ _ _ _ _ _ _ _ _ (F0 m 1 ls [.ref h0])
  refine W.objInit hx hb hown (hts (.methodLink RX2 3 objectInit) (List.mem_of_getElem? (i := 1) rfl)) (hts (.instanceMethod objectInit) (List.mem_of_getElem? (i := 2) rfl)) (hts (.code objectInit ⟨#[0xb1]⟩ 1 none) (List.mem_of_getElem? (i := 3) rfl)) rfl (hl.1.trans hml.symm) rfl dX2_init_1 (Nat.le_of_ble_eq_true rfl) (Nat.le_of_ble_eq_true rfl) ?_
  refine lv_aload_n hx hb dX2_init_4 rfl (lv_at hl 0 rfl) ?_
  refine lv_bipush (v := 12) hx hb dX2_init_5 (by decide) ?_
  refine vz_newa (atype := .int) (ty := .int) (t0 := 0) (N' := 12) (a0 := (12, .inl (fun _ => 0))) hx hb (hts (.arrayClass .int) (List.mem_of_getElem? (i := 4) rfl)) rfl rfl hK hP hD hS hA (fun _ => rfl) (by decide) rfl (by decide) (Nat.le_of_ble_eq_true rfl) (Nat.le_of_ble_eq_true rfl) dX2_init_7 (fun q_1 H hP hD hS => ?_)
  have hP : va_P (dC, dI) vwCl [(h0, .inr (2, [.null, .null, .null, .null, .null, .int 0])), (q_1, .inl (cy 0, 12, .inl (fun _ => 0)))] H := hP
  have hD : va_D A [(h0, .inr (2, [.null, .null, .null, .null, .null, .int 0])), (q_1, .inl (cy 0, 12, .inl (fun _ => 0)))] := hD
  refine W.widen (k := 1) (n := 12) (Nat.le_of_ble_eq_true rfl) (Nat.le_of_ble_eq_true rfl) ?_
  refine va_putF (D := (dC, dI)) (ci := 2) (v := .ref q_1) (C := RX2) (T := TX2) (N := 6) hx hb hts (fun _ h9 => List.mem_cons_of_mem _ (List.mem_append_right _ h9)) tyX2 tyX2_ok nmX2 hown hK hP hD hS 0 rfl rfl 0 (by decide) (hts (.fieldLink RX2 9 "SeatsRound$Keepers" "kind" "[I") (List.mem_of_getElem? (i := 5) rfl)) (fun _ h9 => h9) rfl hin rfl (tyX2_ok 0 (by decide)) rfl rfl (Nat.le_of_ble_eq_true rfl) dX2_init_9 (fun H locs hP hD hS => ?_)
  have hP : va_P (dC, dI) vwCl [(h0, .inr (2, [.ref q_1, .null, .null, .null, .null, .int 0])), (q_1, .inl (cy 0, 12, .inl (fun _ => 0)))] H := hP
  have hD : va_D A [(h0, .inr (2, [.ref q_1, .null, .null, .null, .null, .int 0])), (q_1, .inl (cy 0, 12, .inl (fun _ => 0)))] := hD
  refine lv_aload_n hx hb dX2_init_12 rfl (lv_at hl 0 rfl) ?_
  refine lv_bipush (v := 12) hx hb dX2_init_13 (by decide) ?_
  refine vz_newa (atype := .int) (ty := .int) (t0 := 0) (N' := 12) (a0 := (12, .inl (fun _ => 0))) hx hb (hts (.arrayClass .int) (List.mem_of_getElem? (i := 4) rfl)) rfl rfl hK hP hD hS hA (fun _ => rfl) (by decide) rfl (by decide) (Nat.le_of_ble_eq_true rfl) (Nat.le_of_ble_eq_true rfl) dX2_init_15 (fun q_2 H hP hD hS => ?_)
  have hP : va_P (dC, dI) vwCl [(h0, .inr (2, [.ref q_1, .null, .null, .null, .null, .int 0])), (q_1, .inl (cy 0, 12, .inl (fun _ => 0))), (q_2, .inl (cy 0, 12, .inl (fun _ => 0)))] H := hP
  have hD : va_D A [(h0, .inr (2, [.ref q_1, .null, .null, .null, .null, .int 0])), (q_1, .inl (cy 0, 12, .inl (fun _ => 0))), (q_2, .inl (cy 0, 12, .inl (fun _ => 0)))] := hD
  refine W.widen (k := 2) (n := 24) (Nat.le_of_ble_eq_true rfl) (Nat.le_of_ble_eq_true rfl) ?_
  change W _ _ _ _ _ _ _ _ _ _ _ _ _ _ _ (F0 m 17 ls [.ref q_2, .ref h0])
  refine va_putF (D := (dC, dI)) (ci := 2) (v := .ref q_2) (C := RX2) (T := TX2) (N := 6) hx hb hts (fun _ h9 => List.mem_cons_of_mem _ (List.mem_append_right _ h9)) tyX2 tyX2_ok nmX2 hown hK hP hD hS 0 rfl rfl 1 (by decide) (hts (.fieldLink RX2 15 "SeatsRound$Keepers" "street" "[I") (List.mem_of_getElem? (i := 6) rfl)) (fun _ h9 => h9) rfl hin rfl (tyX2_ok 1 (by decide)) rfl rfl (Nat.le_of_ble_eq_true rfl) dX2_init_17 (fun H locs hP hD hS => ?_)
  have hP : va_P (dC, dI) vwCl [(h0, .inr (2, [.ref q_1, .ref q_2, .null, .null, .null, .int 0])), (q_1, .inl (cy 0, 12, .inl (fun _ => 0))), (q_2, .inl (cy 0, 12, .inl (fun _ => 0)))] H := hP
  have hD : va_D A [(h0, .inr (2, [.ref q_1, .ref q_2, .null, .null, .null, .int 0])), (q_1, .inl (cy 0, 12, .inl (fun _ => 0))), (q_2, .inl (cy 0, 12, .inl (fun _ => 0)))] := hD
  refine lv_aload_n hx hb dX2_init_20 rfl (lv_at hl 0 rfl) ?_
  refine lv_bipush (v := 12) hx hb dX2_init_21 (by decide) ?_
  refine vz_newa (atype := .int) (ty := .int) (t0 := 0) (N' := 12) (a0 := (12, .inl (fun _ => 0))) hx hb (hts (.arrayClass .int) (List.mem_of_getElem? (i := 4) rfl)) rfl rfl hK hP hD hS hA (fun _ => rfl) (by decide) rfl (by decide) (Nat.le_of_ble_eq_true rfl) (Nat.le_of_ble_eq_true rfl) dX2_init_23 (fun q_3 H hP hD hS => ?_)
  have hP : va_P (dC, dI) vwCl [(h0, .inr (2, [.ref q_1, .ref q_2, .null, .null, .null, .int 0])), (q_1, .inl (cy 0, 12, .inl (fun _ => 0))), (q_2, .inl (cy 0, 12, .inl (fun _ => 0))), (q_3, .inl (cy 0, 12, .inl (fun _ => 0)))] H := hP
  have hD : va_D A [(h0, .inr (2, [.ref q_1, .ref q_2, .null, .null, .null, .int 0])), (q_1, .inl (cy 0, 12, .inl (fun _ => 0))), (q_2, .inl (cy 0, 12, .inl (fun _ => 0))), (q_3, .inl (cy 0, 12, .inl (fun _ => 0)))] := hD
  refine W.widen (k := 3) (n := 36) (Nat.le_of_ble_eq_true rfl) (Nat.le_of_ble_eq_true rfl) ?_
  refine va_putF (D := (dC, dI)) (ci := 2) (v := .ref q_3) (C := RX2) (T := TX2) (N := 6) hx hb hts (fun _ h9 => List.mem_cons_of_mem _ (List.mem_append_right _ h9)) tyX2 tyX2_ok nmX2 hown hK hP hD hS 0 rfl rfl 2 (by decide) (hts (.fieldLink RX2 18 "SeatsRound$Keepers" "strength" "[I") (List.mem_of_getElem? (i := 7) rfl)) (fun _ h9 => h9) rfl hin rfl (tyX2_ok 2 (by decide)) rfl rfl (Nat.le_of_ble_eq_true rfl) dX2_init_25 (fun H locs hP hD hS => ?_)
  have hP : va_P (dC, dI) vwCl [(h0, .inr (2, [.ref q_1, .ref q_2, .ref q_3, .null, .null, .int 0])), (q_1, .inl (cy 0, 12, .inl (fun _ => 0))), (q_2, .inl (cy 0, 12, .inl (fun _ => 0))), (q_3, .inl (cy 0, 12, .inl (fun _ => 0)))] H := hP
  have hD : va_D A [(h0, .inr (2, [.ref q_1, .ref q_2, .ref q_3, .null, .null, .int 0])), (q_1, .inl (cy 0, 12, .inl (fun _ => 0))), (q_2, .inl (cy 0, 12, .inl (fun _ => 0))), (q_3, .inl (cy 0, 12, .inl (fun _ => 0)))] := hD
  refine lv_aload_n hx hb dX2_init_28 rfl (lv_at hl 0 rfl) ?_
  refine lv_bipush (v := 12) hx hb dX2_init_29 (by decide) ?_
  refine vz_newa (atype := .int) (ty := .int) (t0 := 0) (N' := 12) (a0 := (12, .inl (fun _ => 0))) hx hb (hts (.arrayClass .int) (List.mem_of_getElem? (i := 4) rfl)) rfl rfl hK hP hD hS hA (fun _ => rfl) (by decide) rfl (by decide) (Nat.le_of_ble_eq_true rfl) (Nat.le_of_ble_eq_true rfl) dX2_init_31 (fun q_4 H hP hD hS => ?_)
  have hP : va_P (dC, dI) vwCl [(h0, .inr (2, [.ref q_1, .ref q_2, .ref q_3, .null, .null, .int 0])), (q_1, .inl (cy 0, 12, .inl (fun _ => 0))), (q_2, .inl (cy 0, 12, .inl (fun _ => 0))), (q_3, .inl (cy 0, 12, .inl (fun _ => 0))), (q_4, .inl (cy 0, 12, .inl (fun _ => 0)))] H := hP
  have hD : va_D A [(h0, .inr (2, [.ref q_1, .ref q_2, .ref q_3, .null, .null, .int 0])), (q_1, .inl (cy 0, 12, .inl (fun _ => 0))), (q_2, .inl (cy 0, 12, .inl (fun _ => 0))), (q_3, .inl (cy 0, 12, .inl (fun _ => 0))), (q_4, .inl (cy 0, 12, .inl (fun _ => 0)))] := hD
  refine W.widen (k := 4) (n := 48) (Nat.le_of_ble_eq_true rfl) (Nat.le_of_ble_eq_true rfl) ?_
  change W _ _ _ _ _ _ _ _ _ _ _ _ _ _ _ (F0 m 33 ls [.ref q_4, .ref h0])
  refine va_putF (D := (dC, dI)) (ci := 2) (v := .ref q_4) (C := RX2) (T := TX2) (N := 6) hx hb hts (fun _ h9 => List.mem_cons_of_mem _ (List.mem_append_right _ h9)) tyX2 tyX2_ok nmX2 hown hK hP hD hS 0 rfl rfl 3 (by decide) (hts (.fieldLink RX2 21 "SeatsRound$Keepers" "table" "[I") (List.mem_of_getElem? (i := 8) rfl)) (fun _ h9 => h9) rfl hin rfl (tyX2_ok 3 (by decide)) rfl rfl (Nat.le_of_ble_eq_true rfl) dX2_init_33 (fun H locs hP hD hS => ?_)
  have hP : va_P (dC, dI) vwCl [(h0, .inr (2, [.ref q_1, .ref q_2, .ref q_3, .ref q_4, .null, .int 0])), (q_1, .inl (cy 0, 12, .inl (fun _ => 0))), (q_2, .inl (cy 0, 12, .inl (fun _ => 0))), (q_3, .inl (cy 0, 12, .inl (fun _ => 0))), (q_4, .inl (cy 0, 12, .inl (fun _ => 0)))] H := hP
  have hD : va_D A [(h0, .inr (2, [.ref q_1, .ref q_2, .ref q_3, .ref q_4, .null, .int 0])), (q_1, .inl (cy 0, 12, .inl (fun _ => 0))), (q_2, .inl (cy 0, 12, .inl (fun _ => 0))), (q_3, .inl (cy 0, 12, .inl (fun _ => 0))), (q_4, .inl (cy 0, 12, .inl (fun _ => 0)))] := hD
  refine lv_aload_n hx hb dX2_init_36 rfl (lv_at hl 0 rfl) ?_
  refine lv_bipush (v := 12) hx hb dX2_init_37 (by decide) ?_
  refine vz_newa (atype := .boolean) (ty := .boolean) (t0 := 2) (N' := 12) (a0 := (12, .inl (fun _ => 0))) hx hb (hts (.arrayClass .boolean) (List.mem_of_getElem? (i := 9) rfl)) rfl rfl hK hP hD hS hA (fun _ => rfl) (by decide) rfl (by decide) (Nat.le_of_ble_eq_true rfl) (Nat.le_of_ble_eq_true rfl) dX2_init_39 (fun q_5 H hP hD hS => ?_)
  have hP : va_P (dC, dI) vwCl [(h0, .inr (2, [.ref q_1, .ref q_2, .ref q_3, .ref q_4, .null, .int 0])), (q_1, .inl (cy 0, 12, .inl (fun _ => 0))), (q_2, .inl (cy 0, 12, .inl (fun _ => 0))), (q_3, .inl (cy 0, 12, .inl (fun _ => 0))), (q_4, .inl (cy 0, 12, .inl (fun _ => 0))), (q_5, .inl (cy 2, 12, .inl (fun _ => 0)))] H := hP
  have hD : va_D A [(h0, .inr (2, [.ref q_1, .ref q_2, .ref q_3, .ref q_4, .null, .int 0])), (q_1, .inl (cy 0, 12, .inl (fun _ => 0))), (q_2, .inl (cy 0, 12, .inl (fun _ => 0))), (q_3, .inl (cy 0, 12, .inl (fun _ => 0))), (q_4, .inl (cy 0, 12, .inl (fun _ => 0))), (q_5, .inl (cy 2, 12, .inl (fun _ => 0)))] := hD
  refine W.widen (k := 5) (n := 60) (Nat.le_of_ble_eq_true rfl) (Nat.le_of_ble_eq_true rfl) ?_
  refine va_putF (D := (dC, dI)) (ci := 2) (v := .ref q_5) (C := RX2) (T := TX2) (N := 6) hx hb hts (fun _ h9 => List.mem_cons_of_mem _ (List.mem_append_right _ h9)) tyX2 tyX2_ok nmX2 hown hK hP hD hS 0 rfl rfl 4 (by decide) (hts (.fieldLink RX2 24 "SeatsRound$Keepers" "fallen" "[Z") (List.mem_of_getElem? (i := 10) rfl)) (fun _ h9 => h9) rfl hin rfl (tyX2_ok 4 (by decide)) rfl rfl (Nat.le_of_ble_eq_true rfl) dX2_init_41 (fun H locs hP hD hS => ?_)
  have hP : va_P (dC, dI) vwCl [(h0, .inr (2, [.ref q_1, .ref q_2, .ref q_3, .ref q_4, .ref q_5, .int 0])), (q_1, .inl (cy 0, 12, .inl (fun _ => 0))), (q_2, .inl (cy 0, 12, .inl (fun _ => 0))), (q_3, .inl (cy 0, 12, .inl (fun _ => 0))), (q_4, .inl (cy 0, 12, .inl (fun _ => 0))), (q_5, .inl (cy 2, 12, .inl (fun _ => 0)))] H := hP
  have hD : va_D A [(h0, .inr (2, [.ref q_1, .ref q_2, .ref q_3, .ref q_4, .ref q_5, .int 0])), (q_1, .inl (cy 0, 12, .inl (fun _ => 0))), (q_2, .inl (cy 0, 12, .inl (fun _ => 0))), (q_3, .inl (cy 0, 12, .inl (fun _ => 0))), (q_4, .inl (cy 0, 12, .inl (fun _ => 0))), (q_5, .inl (cy 2, 12, .inl (fun _ => 0)))] := hD
  refine lv_aload_n hx hb dX2_init_44 rfl (lv_at hl 0 rfl) ?_
  refine lv_iconst (v := 0) hx hb dX2_init_45 (by decide) ?_
  refine va_put (D := (dC, dI)) (ci := 2) (v := .int 0) (C := RX2) (T := TX2) (N := 6) hx hb hts (fun _ h9 => List.mem_cons_of_mem _ (List.mem_append_right _ h9)) tyX2 tyX2_ok nmX2 hown hK hP hD hS 0 rfl rfl 5 (by decide) (hts (.fieldLink RX2 28 "SeatsRound$Keepers" "count" "I") (List.mem_of_getElem? (i := 11) rfl)) (fun _ h9 => h9) rfl (tyX2_ok 5 (by decide)) rfl rfl (Nat.le_of_ble_eq_true rfl) dX2_init_46 (fun H locs hP hD hS => ?_)
  have hP : va_P (dC, dI) vwCl [(h0, .inr (2, [.ref q_1, .ref q_2, .ref q_3, .ref q_4, .ref q_5, .int 0])), (q_1, .inl (cy 0, 12, .inl (fun _ => 0))), (q_2, .inl (cy 0, 12, .inl (fun _ => 0))), (q_3, .inl (cy 0, 12, .inl (fun _ => 0))), (q_4, .inl (cy 0, 12, .inl (fun _ => 0))), (q_5, .inl (cy 2, 12, .inl (fun _ => 0)))] H := hP
  have hD : va_D A [(h0, .inr (2, [.ref q_1, .ref q_2, .ref q_3, .ref q_4, .ref q_5, .int 0])), (q_1, .inl (cy 0, 12, .inl (fun _ => 0))), (q_2, .inl (cy 0, 12, .inl (fun _ => 0))), (q_3, .inl (cy 0, 12, .inl (fun _ => 0))), (q_4, .inl (cy 0, 12, .inl (fun _ => 0))), (q_5, .inl (cy 2, 12, .inl (fun _ => 0)))] := hD
  change W _ _ _ _ _ _ _ _ _ _ _ _ _ _ _ (F0 m 49 ls [])
  exact W.vret hx hb hr (fun t ht hW => ⟨⟨(fun k => [(fun j => [q_1, q_2, q_3, q_4, q_5].getD j 0)].getD k (fun _ => 0)), rfl, trivial, ⟨by rw [ht]; exact hP, hD⟩⟩, hS.F ht⟩) hS.2.2 dX2_init_49
set_option maxHeartbeats 4000000 in
set_option maxRecDepth 100000 in
theorem i_Law (l : Launch) (dC : Nat → ClassId) (dI : Nat → Nat → Nat) (cy : Nat → ClassId) (h0 : Nat) (sz : Nat)  : Met l yX3_init wsX3_init ({ frames := 1, cells := 1, slots := 0, locals := 23 }) (va_Pc [.ref h0] (wPre (dC, dI) cy [(h0, .inr (3, [.null, .int 0, .int 0, .int 0, .int 0, .int 0, .int 0, .int 0]))] sz)) (va_Qv (fun (u : Nat → Nat → Nat) => True) (fun (u : Nat → Nat → Nat) t => wAt (dC, dI) (va_A [(h0, .inr (3, [.null, .int 0, .int 0, .int 0, .int 0, .int 0, .int 0, .int 0]))] sz) [(h0, .inr (3, [.ref (u 0 0), .int 0, .int 0, .int (-1), .int 0, .int 0, .int 0, .int 0])), ((u 0 0), .inl (cy 1, 0, .inl (fun _ => 0)))] t) (va_A [(h0, .inr (3, [.null, .int 0, .int 0, .int 0, .int 0, .int 0, .int 0, .int 0]))] sz)) 1 0 (va_A [(h0, .inr (3, [.null, .int 0, .int 0, .int 0, .int 0, .int 0, .int 0, .int 0]))] sz) := by
  refine Met.ofW (cc := cX3_init) (maxL := 1) (ret := none) (by decide) rfl ?_
  intro p e s m args below meth c s₁ B hml hv
  obtain ⟨rfl, hsz, hP, hK, hD0, hN⟩ := hv
  have hx := B.exec
  have hb := B.bytes
  have hr := B.returns
  have hts := atoms_spec (ws := wsX3_init) B.pre
  have hown : s.vm.findClass RX3 = some m.cls := findClass_of_methodNamed B.named
  have hlocks := B.notSynchronized
  subst hsz
  have hin : meth.name = "<init>" := (name_of_methodNamed B.named B.method).1
  have hD := hD0.self (sz := s.heap.size)
  generalize hAe : va_A [(h0, .inr (3, [.null, .int 0, .int 0, .int 0, .int 0, .int 0, .int 0, .int 0]))] s.heap.size = A at hD ⊢
  have hA : ∀ q : Nat, s.heap.size ≤ q → A q := fun q h => by rw [← hAe]; exact Or.inr h
  have hS : va_S A s.heap s.heap [] := va_S.rf
  have hl := lv_entry ([.ref h0]) (n := 1) (Nat.le_of_ble_eq_true rfl)
  rw [lg_entry_eq]
  generalize (lg_sl ([.ref h0]) ++ List.replicate (1 - (lg_sl ([.ref h0])).length) Slot.unset).toArray = ls at hl ⊢
  have hl : lv_has ls 1 [(0, .ref h0)] := hl
  refine lv_aload_n hx hb dX3_init_0 rfl (lv_at hl 0 rfl) ?_
  refine W.objInit hx hb hown (hts (.methodLink RX3 3 objectInit) (List.mem_of_getElem? (i := 1) rfl)) (hts (.instanceMethod objectInit) (List.mem_of_getElem? (i := 2) rfl)) (hts (.code objectInit ⟨#[0xb1]⟩ 1 none) (List.mem_of_getElem? (i := 3) rfl)) rfl (hl.1.trans hml.symm) rfl dX3_init_1 (Nat.le_of_ble_eq_true rfl) (Nat.le_of_ble_eq_true rfl) ?_
  refine lv_aload_n hx hb dX3_init_4 rfl (lv_at hl 0 rfl) ?_
  refine lv_iconst (v := 0) hx hb dX3_init_5 (by decide) ?_
  refine vz_newa (atype := .byte) (ty := .byte) (t0 := 1) (N' := 0) (a0 := (0, .inl (fun _ => 0))) hx hb (hts (.arrayClass .byte) (List.mem_of_getElem? (i := 4) rfl)) rfl rfl hK hP hD hS hA (fun _ => rfl) (by decide) rfl (by decide) (Nat.le_of_ble_eq_true rfl) (Nat.le_of_ble_eq_true rfl) dX3_init_6 (fun q_1 H hP hD hS => ?_)
  have hP : va_P (dC, dI) vwCl [(h0, .inr (3, [.null, .int 0, .int 0, .int 0, .int 0, .int 0, .int 0, .int 0])), (q_1, .inl (cy 1, 0, .inl (fun _ => 0)))] H := hP
  have hD : va_D A [(h0, .inr (3, [.null, .int 0, .int 0, .int 0, .int 0, .int 0, .int 0, .int 0])), (q_1, .inl (cy 1, 0, .inl (fun _ => 0)))] := hD
  refine W.widen (k := 1) (n := 0) (Nat.le_of_ble_eq_true rfl) (Nat.le_of_ble_eq_true rfl) ?_
  change W _ _ _ _ _ _ _ _ _ _ _ _ _ _ _ (F0 m 8 ls [.ref q_1, .ref h0])
  refine va_put (D := (dC, dI)) (ci := 3) (v := .ref q_1) (C := RX3) (T := TX3) (N := 8) hx hb hts (fun _ h9 => List.mem_cons_of_mem _ (List.mem_append_right _ h9)) tyX3 tyX3_ok nmX3 hown hK hP hD hS 0 rfl rfl 0 (by decide) (hts (.fieldLink RX3 9 "SeatsRound$Law" "text" "[B") (List.mem_of_getElem? (i := 5) rfl)) (fun _ h9 => h9) rfl (tyX3_ok 0 (by decide)) rfl rfl (Nat.le_of_ble_eq_true rfl) dX3_init_8 (fun H locs hP hD hS => ?_)
  have hP : va_P (dC, dI) vwCl [(h0, .inr (3, [.ref q_1, .int 0, .int 0, .int 0, .int 0, .int 0, .int 0, .int 0])), (q_1, .inl (cy 1, 0, .inl (fun _ => 0)))] H := hP
  have hD : va_D A [(h0, .inr (3, [.ref q_1, .int 0, .int 0, .int 0, .int 0, .int 0, .int 0, .int 0])), (q_1, .inl (cy 1, 0, .inl (fun _ => 0)))] := hD
  refine lv_aload_n hx hb dX3_init_11 rfl (lv_at hl 0 rfl) ?_
  refine lv_iconst (v := 0) hx hb dX3_init_12 (by decide) ?_
  refine va_put (D := (dC, dI)) (ci := 3) (v := .int 0) (C := RX3) (T := TX3) (N := 8) hx hb hts (fun _ h9 => List.mem_cons_of_mem _ (List.mem_append_right _ h9)) tyX3 tyX3_ok nmX3 hown hK hP hD hS 0 rfl rfl 1 (by decide) (hts (.fieldLink RX3 15 "SeatsRound$Law" "length" "I") (List.mem_of_getElem? (i := 6) rfl)) (fun _ h9 => h9) rfl (tyX3_ok 1 (by decide)) rfl rfl (Nat.le_of_ble_eq_true rfl) dX3_init_13 (fun H locs hP hD hS => ?_)
  have hP : va_P (dC, dI) vwCl [(h0, .inr (3, [.ref q_1, .int 0, .int 0, .int 0, .int 0, .int 0, .int 0, .int 0])), (q_1, .inl (cy 1, 0, .inl (fun _ => 0)))] H := hP
  have hD : va_D A [(h0, .inr (3, [.ref q_1, .int 0, .int 0, .int 0, .int 0, .int 0, .int 0, .int 0])), (q_1, .inl (cy 1, 0, .inl (fun _ => 0)))] := hD
  refine lv_aload_n hx hb dX3_init_16 rfl (lv_at hl 0 rfl) ?_
  refine lv_iconst (v := 0) hx hb dX3_init_17 (by decide) ?_
  refine va_put (D := (dC, dI)) (ci := 3) (v := .int 0) (C := RX3) (T := TX3) (N := 8) hx hb hts (fun _ h9 => List.mem_cons_of_mem _ (List.mem_append_right _ h9)) tyX3 tyX3_ok nmX3 hown hK hP hD hS 0 rfl rfl 2 (by decide) (hts (.fieldLink RX3 19 "SeatsRound$Law" "at" "I") (List.mem_of_getElem? (i := 7) rfl)) (fun _ h9 => h9) rfl (tyX3_ok 2 (by decide)) rfl rfl (Nat.le_of_ble_eq_true rfl) dX3_init_18 (fun H locs hP hD hS => ?_)
  have hP : va_P (dC, dI) vwCl [(h0, .inr (3, [.ref q_1, .int 0, .int 0, .int 0, .int 0, .int 0, .int 0, .int 0])), (q_1, .inl (cy 1, 0, .inl (fun _ => 0)))] H := hP
  have hD : va_D A [(h0, .inr (3, [.ref q_1, .int 0, .int 0, .int 0, .int 0, .int 0, .int 0, .int 0])), (q_1, .inl (cy 1, 0, .inl (fun _ => 0)))] := hD
  refine lv_aload_n hx hb dX3_init_21 rfl (lv_at hl 0 rfl) ?_
  change W _ _ _ _ _ _ _ _ _ _ _ _ _ _ _ (F0 m 22 ls [.ref h0])
  refine lv_iconst (v := (-1)) hx hb dX3_init_22 (by decide) ?_
  refine va_put (D := (dC, dI)) (ci := 3) (v := .int (-1)) (C := RX3) (T := TX3) (N := 8) hx hb hts (fun _ h9 => List.mem_cons_of_mem _ (List.mem_append_right _ h9)) tyX3 tyX3_ok nmX3 hown hK hP hD hS 0 rfl rfl 3 (by decide) (hts (.fieldLink RX3 22 "SeatsRound$Law" "fault" "I") (List.mem_of_getElem? (i := 8) rfl)) (fun _ h9 => h9) rfl (tyX3_ok 3 (by decide)) rfl rfl (Nat.le_of_ble_eq_true rfl) dX3_init_23 (fun H locs hP hD hS => ?_)
  have hP : va_P (dC, dI) vwCl [(h0, .inr (3, [.ref q_1, .int 0, .int 0, .int (-1), .int 0, .int 0, .int 0, .int 0])), (q_1, .inl (cy 1, 0, .inl (fun _ => 0)))] H := hP
  have hD : va_D A [(h0, .inr (3, [.ref q_1, .int 0, .int 0, .int (-1), .int 0, .int 0, .int 0, .int 0])), (q_1, .inl (cy 1, 0, .inl (fun _ => 0)))] := hD
  refine lv_aload_n hx hb dX3_init_26 rfl (lv_at hl 0 rfl) ?_
  refine lv_iconst (v := 0) hx hb dX3_init_27 (by decide) ?_
  refine va_put (D := (dC, dI)) (ci := 3) (v := .int 0) (C := RX3) (T := TX3) (N := 8) hx hb hts (fun _ h9 => List.mem_cons_of_mem _ (List.mem_append_right _ h9)) tyX3 tyX3_ok nmX3 hown hK hP hD hS 0 rfl rfl 4 (by decide) (hts (.fieldLink RX3 25 "SeatsRound$Law" "members" "I") (List.mem_of_getElem? (i := 9) rfl)) (fun _ h9 => h9) rfl (tyX3_ok 4 (by decide)) rfl rfl (Nat.le_of_ble_eq_true rfl) dX3_init_28 (fun H locs hP hD hS => ?_)
  have hP : va_P (dC, dI) vwCl [(h0, .inr (3, [.ref q_1, .int 0, .int 0, .int (-1), .int 0, .int 0, .int 0, .int 0])), (q_1, .inl (cy 1, 0, .inl (fun _ => 0)))] H := hP
  have hD : va_D A [(h0, .inr (3, [.ref q_1, .int 0, .int 0, .int (-1), .int 0, .int 0, .int 0, .int 0])), (q_1, .inl (cy 1, 0, .inl (fun _ => 0)))] := hD
  refine lv_aload_n hx hb dX3_init_31 rfl (lv_at hl 0 rfl) ?_
  refine lv_iconst (v := 0) hx hb dX3_init_32 (by decide) ?_
  refine va_put (D := (dC, dI)) (ci := 3) (v := .int 0) (C := RX3) (T := TX3) (N := 8) hx hb hts (fun _ h9 => List.mem_cons_of_mem _ (List.mem_append_right _ h9)) tyX3 tyX3_ok nmX3 hown hK hP hD hS 0 rfl rfl 5 (by decide) (hts (.fieldLink RX3 28 "SeatsRound$Law" "streetsIn" "I") (List.mem_of_getElem? (i := 10) rfl)) (fun _ h9 => h9) rfl (tyX3_ok 5 (by decide)) rfl rfl (Nat.le_of_ble_eq_true rfl) dX3_init_33 (fun H locs hP hD hS => ?_)
  have hP : va_P (dC, dI) vwCl [(h0, .inr (3, [.ref q_1, .int 0, .int 0, .int (-1), .int 0, .int 0, .int 0, .int 0])), (q_1, .inl (cy 1, 0, .inl (fun _ => 0)))] H := hP
  have hD : va_D A [(h0, .inr (3, [.ref q_1, .int 0, .int 0, .int (-1), .int 0, .int 0, .int 0, .int 0])), (q_1, .inl (cy 1, 0, .inl (fun _ => 0)))] := hD
  change W _ _ _ _ _ _ _ _ _ _ _ _ _ _ _ (F0 m 36 ls [])
  refine lv_aload_n hx hb dX3_init_36 rfl (lv_at hl 0 rfl) ?_
  refine lv_iconst (v := 0) hx hb dX3_init_37 (by decide) ?_
  refine va_put (D := (dC, dI)) (ci := 3) (v := .int 0) (C := RX3) (T := TX3) (N := 8) hx hb hts (fun _ h9 => List.mem_cons_of_mem _ (List.mem_append_right _ h9)) tyX3 tyX3_ok nmX3 hown hK hP hD hS 0 rfl rfl 6 (by decide) (hts (.fieldLink RX3 31 "SeatsRound$Law" "weights" "I") (List.mem_of_getElem? (i := 11) rfl)) (fun _ h9 => h9) rfl (tyX3_ok 6 (by decide)) rfl rfl (Nat.le_of_ble_eq_true rfl) dX3_init_38 (fun H locs hP hD hS => ?_)
  have hP : va_P (dC, dI) vwCl [(h0, .inr (3, [.ref q_1, .int 0, .int 0, .int (-1), .int 0, .int 0, .int 0, .int 0])), (q_1, .inl (cy 1, 0, .inl (fun _ => 0)))] H := hP
  have hD : va_D A [(h0, .inr (3, [.ref q_1, .int 0, .int 0, .int (-1), .int 0, .int 0, .int 0, .int 0])), (q_1, .inl (cy 1, 0, .inl (fun _ => 0)))] := hD
  refine lv_aload_n hx hb dX3_init_41 rfl (lv_at hl 0 rfl) ?_
  refine lv_iconst (v := 0) hx hb dX3_init_42 (by decide) ?_
  refine va_put (D := (dC, dI)) (ci := 3) (v := .int 0) (C := RX3) (T := TX3) (N := 8) hx hb hts (fun _ h9 => List.mem_cons_of_mem _ (List.mem_append_right _ h9)) tyX3 tyX3_ok nmX3 hown hK hP hD hS 0 rfl rfl 7 (by decide) (hts (.fieldLink RX3 34 "SeatsRound$Law" "greatest" "I") (List.mem_of_getElem? (i := 12) rfl)) (fun _ h9 => h9) rfl (tyX3_ok 7 (by decide)) rfl rfl (Nat.le_of_ble_eq_true rfl) dX3_init_43 (fun H locs hP hD hS => ?_)
  have hP : va_P (dC, dI) vwCl [(h0, .inr (3, [.ref q_1, .int 0, .int 0, .int (-1), .int 0, .int 0, .int 0, .int 0])), (q_1, .inl (cy 1, 0, .inl (fun _ => 0)))] H := hP
  have hD : va_D A [(h0, .inr (3, [.ref q_1, .int 0, .int 0, .int (-1), .int 0, .int 0, .int 0, .int 0])), (q_1, .inl (cy 1, 0, .inl (fun _ => 0)))] := hD
  exact W.vret hx hb hr (fun t ht hW => ⟨⟨(fun k => [(fun j => [q_1].getD j 0)].getD k (fun _ => 0)), rfl, trivial, ⟨by rw [ht]; exact hP, hD⟩⟩, hS.F ht⟩) hS.2.2 dX3_init_46
set_option maxHeartbeats 4000000 in
set_option maxRecDepth 100000 in
theorem i_Choice (l : Launch) (dC : Nat → ClassId) (dI : Nat → Nat → Nat) (cy : Nat → ClassId) (h0 : Nat) (k0 : Nat) (sz : Nat)  : Met l yX1_init wsX1_init ({ frames := 1, cells := 3, slots := 36, locals := 23 }) (va_Pc [.ref h0, .ref k0] (wPre (dC, dI) cy [(h0, .inr (1, [.null, .null, .int 0, .int 0, .int 0, .int 0, .int 0, .null, .null]))] sz)) (va_Qv (fun (u : Nat → Nat → Nat) => True) (fun (u : Nat → Nat → Nat) t => wAt (dC, dI) (va_A [(h0, .inr (1, [.null, .null, .int 0, .int 0, .int 0, .int 0, .int 0, .null, .null]))] sz) [(h0, .inr (1, [.ref (u 0 0), .ref (u 0 1), .int 0, .int 0, .int 0, .int 0, .int 0, .ref (u 0 2), .ref k0])), ((u 0 0), .inl (cy 0, 12, .inl (fun _ => 0))), ((u 0 1), .inl (cy 0, 12, .inl (fun _ => 0))), ((u 0 2), .inl (cy 0, 12, .inl (fun _ => 0)))] t) (va_A [(h0, .inr (1, [.null, .null, .int 0, .int 0, .int 0, .int 0, .int 0, .null, .null]))] sz)) 3 36 (va_A [(h0, .inr (1, [.null, .null, .int 0, .int 0, .int 0, .int 0, .int 0, .null, .null]))] sz) := by
  refine Met.ofW (cc := cX1_init) (maxL := 2) (ret := none) (by decide) rfl ?_
  intro p e s m args below meth c s₁ B hml hv
  obtain ⟨rfl, hsz, hP, hK, hD0, hN⟩ := hv
  have hx := B.exec
  have hb := B.bytes
  have hr := B.returns
  have hts := atoms_spec (ws := wsX1_init) B.pre
  have hown : s.vm.findClass RX1 = some m.cls := findClass_of_methodNamed B.named
  have hlocks := B.notSynchronized
  subst hsz
  have hin : meth.name = "<init>" := (name_of_methodNamed B.named B.method).1
  have hD := hD0.self (sz := s.heap.size)
  generalize hAe : va_A [(h0, .inr (1, [.null, .null, .int 0, .int 0, .int 0, .int 0, .int 0, .null, .null]))] s.heap.size = A at hD ⊢
  have hA : ∀ q : Nat, s.heap.size ≤ q → A q := fun q h => by rw [← hAe]; exact Or.inr h
  have hS : va_S A s.heap s.heap [] := va_S.rf
  have hl := lv_entry ([.ref h0, .ref k0]) (n := 2) (Nat.le_of_ble_eq_true rfl)
  rw [lg_entry_eq]
  generalize (lg_sl ([.ref h0, .ref k0]) ++ List.replicate (2 - (lg_sl ([.ref h0, .ref k0])).length) Slot.unset).toArray = ls at hl ⊢
  have hl : lv_has ls 2 [(0, .ref h0), (1, .ref k0)] := hl
  refine lv_aload_n hx hb dX1_init_0 rfl (lv_at hl 0 rfl) ?_
  refine W.objInit hx hb hown (hts (.methodLink RX1 3 objectInit) (List.mem_of_getElem? (i := 1) rfl)) (hts (.instanceMethod objectInit) (List.mem_of_getElem? (i := 2) rfl)) (hts (.code objectInit ⟨#[0xb1]⟩ 1 none) (List.mem_of_getElem? (i := 3) rfl)) rfl (hl.1.trans hml.symm) rfl dX1_init_1 (Nat.le_of_ble_eq_true rfl) (Nat.le_of_ble_eq_true rfl) ?_
  change W _ _ _ _ _ _ _ _ _ _ _ _ _ _ _ (F0 m 4 ls [])
  refine lv_aload_n hx hb dX1_init_4 rfl (lv_at hl 0 rfl) ?_
  refine lv_bipush (v := 12) hx hb dX1_init_5 (by decide) ?_
  refine vz_newa (atype := .int) (ty := .int) (t0 := 0) (N' := 12) (a0 := (12, .inl (fun _ => 0))) hx hb (hts (.arrayClass .int) (List.mem_of_getElem? (i := 4) rfl)) rfl rfl hK hP hD hS hA (fun _ => rfl) (by decide) rfl (by decide) (Nat.le_of_ble_eq_true rfl) (Nat.le_of_ble_eq_true rfl) dX1_init_7 (fun q_1 H hP hD hS => ?_)
  have hP : va_P (dC, dI) vwCl [(h0, .inr (1, [.null, .null, .int 0, .int 0, .int 0, .int 0, .int 0, .null, .null])), (q_1, .inl (cy 0, 12, .inl (fun _ => 0)))] H := hP
  have hD : va_D A [(h0, .inr (1, [.null, .null, .int 0, .int 0, .int 0, .int 0, .int 0, .null, .null])), (q_1, .inl (cy 0, 12, .inl (fun _ => 0)))] := hD
  refine W.widen (k := 1) (n := 12) (Nat.le_of_ble_eq_true rfl) (Nat.le_of_ble_eq_true rfl) ?_
  refine va_putF (D := (dC, dI)) (ci := 1) (v := .ref q_1) (C := RX1) (T := TX1) (N := 9) hx hb hts (fun _ h9 => List.mem_cons_of_mem _ (List.mem_append_right _ h9)) tyX1 tyX1_ok nmX1 hown hK hP hD hS 0 rfl rfl 0 (by decide) (hts (.fieldLink RX1 9 "SeatsRound$Choice" "picks" "[I") (List.mem_of_getElem? (i := 5) rfl)) (fun _ h9 => h9) rfl hin rfl (tyX1_ok 0 (by decide)) rfl rfl (Nat.le_of_ble_eq_true rfl) dX1_init_9 (fun H locs hP hD hS => ?_)
  have hP : va_P (dC, dI) vwCl [(h0, .inr (1, [.ref q_1, .null, .int 0, .int 0, .int 0, .int 0, .int 0, .null, .null])), (q_1, .inl (cy 0, 12, .inl (fun _ => 0)))] H := hP
  have hD : va_D A [(h0, .inr (1, [.ref q_1, .null, .int 0, .int 0, .int 0, .int 0, .int 0, .null, .null])), (q_1, .inl (cy 0, 12, .inl (fun _ => 0)))] := hD
  refine lv_aload_n hx hb dX1_init_12 rfl (lv_at hl 0 rfl) ?_
  refine lv_bipush (v := 12) hx hb dX1_init_13 (by decide) ?_
  refine vz_newa (atype := .int) (ty := .int) (t0 := 0) (N' := 12) (a0 := (12, .inl (fun _ => 0))) hx hb (hts (.arrayClass .int) (List.mem_of_getElem? (i := 4) rfl)) rfl rfl hK hP hD hS hA (fun _ => rfl) (by decide) rfl (by decide) (Nat.le_of_ble_eq_true rfl) (Nat.le_of_ble_eq_true rfl) dX1_init_15 (fun q_2 H hP hD hS => ?_)
  have hP : va_P (dC, dI) vwCl [(h0, .inr (1, [.ref q_1, .null, .int 0, .int 0, .int 0, .int 0, .int 0, .null, .null])), (q_1, .inl (cy 0, 12, .inl (fun _ => 0))), (q_2, .inl (cy 0, 12, .inl (fun _ => 0)))] H := hP
  have hD : va_D A [(h0, .inr (1, [.ref q_1, .null, .int 0, .int 0, .int 0, .int 0, .int 0, .null, .null])), (q_1, .inl (cy 0, 12, .inl (fun _ => 0))), (q_2, .inl (cy 0, 12, .inl (fun _ => 0)))] := hD
  refine W.widen (k := 2) (n := 24) (Nat.le_of_ble_eq_true rfl) (Nat.le_of_ble_eq_true rfl) ?_
  refine va_putF (D := (dC, dI)) (ci := 1) (v := .ref q_2) (C := RX1) (T := TX1) (N := 9) hx hb hts (fun _ h9 => List.mem_cons_of_mem _ (List.mem_append_right _ h9)) tyX1 tyX1_ok nmX1 hown hK hP hD hS 0 rfl rfl 1 (by decide) (hts (.fieldLink RX1 15 "SeatsRound$Choice" "chosen" "[I") (List.mem_of_getElem? (i := 6) rfl)) (fun _ h9 => h9) rfl hin rfl (tyX1_ok 1 (by decide)) rfl rfl (Nat.le_of_ble_eq_true rfl) dX1_init_17 (fun H locs hP hD hS => ?_)
  have hP : va_P (dC, dI) vwCl [(h0, .inr (1, [.ref q_1, .ref q_2, .int 0, .int 0, .int 0, .int 0, .int 0, .null, .null])), (q_1, .inl (cy 0, 12, .inl (fun _ => 0))), (q_2, .inl (cy 0, 12, .inl (fun _ => 0)))] H := hP
  have hD : va_D A [(h0, .inr (1, [.ref q_1, .ref q_2, .int 0, .int 0, .int 0, .int 0, .int 0, .null, .null])), (q_1, .inl (cy 0, 12, .inl (fun _ => 0))), (q_2, .inl (cy 0, 12, .inl (fun _ => 0)))] := hD
  change W _ _ _ _ _ _ _ _ _ _ _ _ _ _ _ (F0 m 20 ls [])
  refine lv_aload_n hx hb dX1_init_20 rfl (lv_at hl 0 rfl) ?_
  refine lv_iconst (v := 0) hx hb dX1_init_21 (by decide) ?_
  refine va_put (D := (dC, dI)) (ci := 1) (v := .int 0) (C := RX1) (T := TX1) (N := 9) hx hb hts (fun _ h9 => List.mem_cons_of_mem _ (List.mem_append_right _ h9)) tyX1 tyX1_ok nmX1 hown hK hP hD hS 0 rfl rfl 2 (by decide) (hts (.fieldLink RX1 18 "SeatsRound$Choice" "pickCount" "I") (List.mem_of_getElem? (i := 7) rfl)) (fun _ h9 => h9) rfl (tyX1_ok 2 (by decide)) rfl rfl (Nat.le_of_ble_eq_true rfl) dX1_init_22 (fun H locs hP hD hS => ?_)
  have hP : va_P (dC, dI) vwCl [(h0, .inr (1, [.ref q_1, .ref q_2, .int 0, .int 0, .int 0, .int 0, .int 0, .null, .null])), (q_1, .inl (cy 0, 12, .inl (fun _ => 0))), (q_2, .inl (cy 0, 12, .inl (fun _ => 0)))] H := hP
  have hD : va_D A [(h0, .inr (1, [.ref q_1, .ref q_2, .int 0, .int 0, .int 0, .int 0, .int 0, .null, .null])), (q_1, .inl (cy 0, 12, .inl (fun _ => 0))), (q_2, .inl (cy 0, 12, .inl (fun _ => 0)))] := hD
  refine lv_aload_n hx hb dX1_init_25 rfl (lv_at hl 0 rfl) ?_
  refine lv_iconst (v := 0) hx hb dX1_init_26 (by decide) ?_
  refine va_put (D := (dC, dI)) (ci := 1) (v := .int 0) (C := RX1) (T := TX1) (N := 9) hx hb hts (fun _ h9 => List.mem_cons_of_mem _ (List.mem_append_right _ h9)) tyX1 tyX1_ok nmX1 hown hK hP hD hS 0 rfl rfl 3 (by decide) (hts (.fieldLink RX1 22 "SeatsRound$Choice" "chosenCount" "I") (List.mem_of_getElem? (i := 8) rfl)) (fun _ h9 => h9) rfl (tyX1_ok 3 (by decide)) rfl rfl (Nat.le_of_ble_eq_true rfl) dX1_init_27 (fun H locs hP hD hS => ?_)
  have hP : va_P (dC, dI) vwCl [(h0, .inr (1, [.ref q_1, .ref q_2, .int 0, .int 0, .int 0, .int 0, .int 0, .null, .null])), (q_1, .inl (cy 0, 12, .inl (fun _ => 0))), (q_2, .inl (cy 0, 12, .inl (fun _ => 0)))] H := hP
  have hD : va_D A [(h0, .inr (1, [.ref q_1, .ref q_2, .int 0, .int 0, .int 0, .int 0, .int 0, .null, .null])), (q_1, .inl (cy 0, 12, .inl (fun _ => 0))), (q_2, .inl (cy 0, 12, .inl (fun _ => 0)))] := hD
  refine lv_aload_n hx hb dX1_init_30 rfl (lv_at hl 0 rfl) ?_
  refine lv_iconst (v := 0) hx hb dX1_init_31 (by decide) ?_
  change W _ _ _ _ _ _ _ _ _ _ _ _ _ _ _ (F0 m 32 ls [.int 0, .ref h0])
  refine va_put (D := (dC, dI)) (ci := 1) (v := .int 0) (C := RX1) (T := TX1) (N := 9) hx hb hts (fun _ h9 => List.mem_cons_of_mem _ (List.mem_append_right _ h9)) tyX1 tyX1_ok nmX1 hown hK hP hD hS 0 rfl rfl 4 (by decide) (hts (.fieldLink RX1 25 "SeatsRound$Choice" "chosenBits" "I") (List.mem_of_getElem? (i := 9) rfl)) (fun _ h9 => h9) rfl (tyX1_ok 4 (by decide)) rfl rfl (Nat.le_of_ble_eq_true rfl) dX1_init_32 (fun H locs hP hD hS => ?_)
  have hP : va_P (dC, dI) vwCl [(h0, .inr (1, [.ref q_1, .ref q_2, .int 0, .int 0, .int 0, .int 0, .int 0, .null, .null])), (q_1, .inl (cy 0, 12, .inl (fun _ => 0))), (q_2, .inl (cy 0, 12, .inl (fun _ => 0)))] H := hP
  have hD : va_D A [(h0, .inr (1, [.ref q_1, .ref q_2, .int 0, .int 0, .int 0, .int 0, .int 0, .null, .null])), (q_1, .inl (cy 0, 12, .inl (fun _ => 0))), (q_2, .inl (cy 0, 12, .inl (fun _ => 0)))] := hD
  refine lv_aload_n hx hb dX1_init_35 rfl (lv_at hl 0 rfl) ?_
  refine lv_iconst (v := 0) hx hb dX1_init_36 (by decide) ?_
  refine va_put (D := (dC, dI)) (ci := 1) (v := .int 0) (C := RX1) (T := TX1) (N := 9) hx hb hts (fun _ h9 => List.mem_cons_of_mem _ (List.mem_append_right _ h9)) tyX1 tyX1_ok nmX1 hown hK hP hD hS 0 rfl rfl 5 (by decide) (hts (.fieldLink RX1 28 "SeatsRound$Choice" "streetBits" "I") (List.mem_of_getElem? (i := 10) rfl)) (fun _ h9 => h9) rfl (tyX1_ok 5 (by decide)) rfl rfl (Nat.le_of_ble_eq_true rfl) dX1_init_37 (fun H locs hP hD hS => ?_)
  have hP : va_P (dC, dI) vwCl [(h0, .inr (1, [.ref q_1, .ref q_2, .int 0, .int 0, .int 0, .int 0, .int 0, .null, .null])), (q_1, .inl (cy 0, 12, .inl (fun _ => 0))), (q_2, .inl (cy 0, 12, .inl (fun _ => 0)))] H := hP
  have hD : va_D A [(h0, .inr (1, [.ref q_1, .ref q_2, .int 0, .int 0, .int 0, .int 0, .int 0, .null, .null])), (q_1, .inl (cy 0, 12, .inl (fun _ => 0))), (q_2, .inl (cy 0, 12, .inl (fun _ => 0)))] := hD
  refine lv_aload_n hx hb dX1_init_40 rfl (lv_at hl 0 rfl) ?_
  refine lv_iconst (v := 0) hx hb dX1_init_41 (by decide) ?_
  refine va_put (D := (dC, dI)) (ci := 1) (v := .int 0) (C := RX1) (T := TX1) (N := 9) hx hb hts (fun _ h9 => List.mem_cons_of_mem _ (List.mem_append_right _ h9)) tyX1 tyX1_ok nmX1 hown hK hP hD hS 0 rfl rfl 6 (by decide) (hts (.fieldLink RX1 31 "SeatsRound$Choice" "pickBits" "I") (List.mem_of_getElem? (i := 11) rfl)) (fun _ h9 => h9) rfl (tyX1_ok 6 (by decide)) rfl rfl (Nat.le_of_ble_eq_true rfl) dX1_init_42 (fun H locs hP hD hS => ?_)
  have hP : va_P (dC, dI) vwCl [(h0, .inr (1, [.ref q_1, .ref q_2, .int 0, .int 0, .int 0, .int 0, .int 0, .null, .null])), (q_1, .inl (cy 0, 12, .inl (fun _ => 0))), (q_2, .inl (cy 0, 12, .inl (fun _ => 0)))] H := hP
  have hD : va_D A [(h0, .inr (1, [.ref q_1, .ref q_2, .int 0, .int 0, .int 0, .int 0, .int 0, .null, .null])), (q_1, .inl (cy 0, 12, .inl (fun _ => 0))), (q_2, .inl (cy 0, 12, .inl (fun _ => 0)))] := hD
  refine lv_aload_n hx hb dX1_init_45 rfl (lv_at hl 0 rfl) ?_
  change W _ _ _ _ _ _ _ _ _ _ _ _ _ _ _ (F0 m 46 ls [.ref h0])
  refine lv_bipush (v := 12) hx hb dX1_init_46 (by decide) ?_
  refine vz_newa (atype := .int) (ty := .int) (t0 := 0) (N' := 12) (a0 := (12, .inl (fun _ => 0))) hx hb (hts (.arrayClass .int) (List.mem_of_getElem? (i := 4) rfl)) rfl rfl hK hP hD hS hA (fun _ => rfl) (by decide) rfl (by decide) (Nat.le_of_ble_eq_true rfl) (Nat.le_of_ble_eq_true rfl) dX1_init_48 (fun q_3 H hP hD hS => ?_)
  have hP : va_P (dC, dI) vwCl [(h0, .inr (1, [.ref q_1, .ref q_2, .int 0, .int 0, .int 0, .int 0, .int 0, .null, .null])), (q_1, .inl (cy 0, 12, .inl (fun _ => 0))), (q_2, .inl (cy 0, 12, .inl (fun _ => 0))), (q_3, .inl (cy 0, 12, .inl (fun _ => 0)))] H := hP
  have hD : va_D A [(h0, .inr (1, [.ref q_1, .ref q_2, .int 0, .int 0, .int 0, .int 0, .int 0, .null, .null])), (q_1, .inl (cy 0, 12, .inl (fun _ => 0))), (q_2, .inl (cy 0, 12, .inl (fun _ => 0))), (q_3, .inl (cy 0, 12, .inl (fun _ => 0)))] := hD
  refine W.widen (k := 3) (n := 36) (Nat.le_of_ble_eq_true rfl) (Nat.le_of_ble_eq_true rfl) ?_
  refine va_putF (D := (dC, dI)) (ci := 1) (v := .ref q_3) (C := RX1) (T := TX1) (N := 9) hx hb hts (fun _ h9 => List.mem_cons_of_mem _ (List.mem_append_right _ h9)) tyX1 tyX1_ok nmX1 hown hK hP hD hS 0 rfl rfl 7 (by decide) (hts (.fieldLink RX1 34 "SeatsRound$Choice" "sums" "[I") (List.mem_of_getElem? (i := 12) rfl)) (fun _ h9 => h9) rfl hin rfl (tyX1_ok 7 (by decide)) rfl rfl (Nat.le_of_ble_eq_true rfl) dX1_init_50 (fun H locs hP hD hS => ?_)
  have hP : va_P (dC, dI) vwCl [(h0, .inr (1, [.ref q_1, .ref q_2, .int 0, .int 0, .int 0, .int 0, .int 0, .ref q_3, .null])), (q_1, .inl (cy 0, 12, .inl (fun _ => 0))), (q_2, .inl (cy 0, 12, .inl (fun _ => 0))), (q_3, .inl (cy 0, 12, .inl (fun _ => 0)))] H := hP
  have hD : va_D A [(h0, .inr (1, [.ref q_1, .ref q_2, .int 0, .int 0, .int 0, .int 0, .int 0, .ref q_3, .null])), (q_1, .inl (cy 0, 12, .inl (fun _ => 0))), (q_2, .inl (cy 0, 12, .inl (fun _ => 0))), (q_3, .inl (cy 0, 12, .inl (fun _ => 0)))] := hD
  refine lv_aload_n hx hb dX1_init_53 rfl (lv_at hl 0 rfl) ?_
  refine lv_aload_n hx hb dX1_init_54 rfl (lv_at hl 1 rfl) ?_
  refine va_putF (D := (dC, dI)) (ci := 1) (v := .ref k0) (C := RX1) (T := TX1) (N := 9) hx hb hts (fun _ h9 => List.mem_cons_of_mem _ (List.mem_append_right _ h9)) tyX1 tyX1_ok nmX1 hown hK hP hD hS 0 rfl rfl 8 (by decide) (hts (.fieldLink RX1 37 "SeatsRound$Choice" "keepers" "LSeatsRound$Keepers;") (List.mem_of_getElem? (i := 13) rfl)) (fun _ h9 => h9) rfl hin rfl (tyX1_ok 8 (by decide)) rfl rfl (Nat.le_of_ble_eq_true rfl) dX1_init_55 (fun H locs hP hD hS => ?_)
  have hP : va_P (dC, dI) vwCl [(h0, .inr (1, [.ref q_1, .ref q_2, .int 0, .int 0, .int 0, .int 0, .int 0, .ref q_3, .ref k0])), (q_1, .inl (cy 0, 12, .inl (fun _ => 0))), (q_2, .inl (cy 0, 12, .inl (fun _ => 0))), (q_3, .inl (cy 0, 12, .inl (fun _ => 0)))] H := hP
  have hD : va_D A [(h0, .inr (1, [.ref q_1, .ref q_2, .int 0, .int 0, .int 0, .int 0, .int 0, .ref q_3, .ref k0])), (q_1, .inl (cy 0, 12, .inl (fun _ => 0))), (q_2, .inl (cy 0, 12, .inl (fun _ => 0))), (q_3, .inl (cy 0, 12, .inl (fun _ => 0)))] := hD
  exact W.vret hx hb hr (fun t ht hW => ⟨⟨(fun k => [(fun j => [q_1, q_2, q_3].getD j 0)].getD k (fun _ => 0)), rfl, trivial, ⟨by rw [ht]; exact hP, hD⟩⟩, hS.F ht⟩) hS.2.2 dX1_init_58
set_option maxHeartbeats 4000000 in
set_option maxRecDepth 100000 in
theorem i_Table (l : Launch) (dC : Nat → ClassId) (dI : Nat → Nat → Nat) (cy : Nat → ClassId) (h0 : Nat) (sz : Nat)  : Met l yX8_init wsX8_init ({ frames := 1, cells := 5, slots := 2104, locals := 23 }) (va_Pc [.ref h0] (wPre (dC, dI) cy [(h0, .inr (8, [.int 0, .int 0, .int 0, .int 0, .int 0, .int 0, .int 0, .int 0, .null, .null, .null, .null, .null]))] sz)) (va_Qv (fun (u : Nat → Nat → Nat) => True) (fun (u : Nat → Nat → Nat) t => wAt (dC, dI) (va_A [(h0, .inr (8, [.int 0, .int 0, .int 0, .int 0, .int 0, .int 0, .int 0, .int 0, .null, .null, .null, .null, .null]))] sz) [(h0, .inr (8, [.int 0, .int 0, .int 1, .int 1, .int 0, .int 0, .int 0, .int 0, .ref (u 0 0), .ref (u 0 1), .ref (u 0 2), .ref (u 0 3), .ref (u 0 4)])), ((u 0 0), .inl (cy 0, 12, .inl (fun _ => 0))), ((u 0 1), .inl (cy 0, 12, .inl (fun _ => 0))), ((u 0 2), .inl (cy 1, 80, .inl (fun _ => 0))), ((u 0 3), .inl (cy 1, 1000, .inl (fun _ => 0))), ((u 0 4), .inl (cy 3, 1000, .inl (fun _ => 0)))] t) (va_A [(h0, .inr (8, [.int 0, .int 0, .int 0, .int 0, .int 0, .int 0, .int 0, .int 0, .null, .null, .null, .null, .null]))] sz)) 5 2104 (va_A [(h0, .inr (8, [.int 0, .int 0, .int 0, .int 0, .int 0, .int 0, .int 0, .int 0, .null, .null, .null, .null, .null]))] sz) := by
  refine Met.ofW (cc := cX8_init) (maxL := 1) (ret := none) (by decide) rfl ?_
  intro p e s m args below meth c s₁ B hml hv
  obtain ⟨rfl, hsz, hP, hK, hD0, hN⟩ := hv
  have hx := B.exec
  have hb := B.bytes
  have hr := B.returns
  have hts := atoms_spec (ws := wsX8_init) B.pre
  have hown : s.vm.findClass RX8 = some m.cls := findClass_of_methodNamed B.named
  have hlocks := B.notSynchronized
  subst hsz
  have hin : meth.name = "<init>" := (name_of_methodNamed B.named B.method).1
  have hD := hD0.self (sz := s.heap.size)
  generalize hAe : va_A [(h0, .inr (8, [.int 0, .int 0, .int 0, .int 0, .int 0, .int 0, .int 0, .int 0, .null, .null, .null, .null, .null]))] s.heap.size = A at hD ⊢
  have hA : ∀ q : Nat, s.heap.size ≤ q → A q := fun q h => by rw [← hAe]; exact Or.inr h
  have hS : va_S A s.heap s.heap [] := va_S.rf
  have hl := lv_entry ([.ref h0]) (n := 1) (Nat.le_of_ble_eq_true rfl)
  rw [lg_entry_eq]
  generalize (lg_sl ([.ref h0]) ++ List.replicate (1 - (lg_sl ([.ref h0])).length) Slot.unset).toArray = ls at hl ⊢
  have hl : lv_has ls 1 [(0, .ref h0)] := hl
  refine lv_aload_n hx hb dX8_init_0 rfl (lv_at hl 0 rfl) ?_
  refine W.objInit hx hb hown (hts (.methodLink RX8 3 objectInit) (List.mem_of_getElem? (i := 1) rfl)) (hts (.instanceMethod objectInit) (List.mem_of_getElem? (i := 2) rfl)) (hts (.code objectInit ⟨#[0xb1]⟩ 1 none) (List.mem_of_getElem? (i := 3) rfl)) rfl (hl.1.trans hml.symm) rfl dX8_init_1 (Nat.le_of_ble_eq_true rfl) (Nat.le_of_ble_eq_true rfl) ?_
  refine lv_aload_n hx hb dX8_init_4 rfl (lv_at hl 0 rfl) ?_
  refine lv_iconst (v := 0) hx hb dX8_init_5 (by decide) ?_
  change W _ _ _ _ _ _ _ _ _ _ _ _ _ _ _ (F0 m 6 ls [.int 0, .ref h0])
  refine va_put (D := (dC, dI)) (ci := 8) (v := .int 0) (C := RX8) (T := TX8) (N := 13) hx hb hts (fun _ h9 => List.mem_cons_of_mem _ (List.mem_append_right _ h9)) tyX8 tyX8_ok nmX8 hown hK hP hD hS 0 rfl rfl 0 (by decide) (hts (.fieldLink RX8 9 "SeatsRound$Table" "members" "I") (List.mem_of_getElem? (i := 4) rfl)) (fun _ h9 => h9) rfl (tyX8_ok 0 (by decide)) rfl rfl (Nat.le_of_ble_eq_true rfl) dX8_init_6 (fun H locs hP hD hS => ?_)
  have hP : va_P (dC, dI) vwCl [(h0, .inr (8, [.int 0, .int 0, .int 0, .int 0, .int 0, .int 0, .int 0, .int 0, .null, .null, .null, .null, .null]))] H := hP
  have hD : va_D A [(h0, .inr (8, [.int 0, .int 0, .int 0, .int 0, .int 0, .int 0, .int 0, .int 0, .null, .null, .null, .null, .null]))] := hD
  refine lv_aload_n hx hb dX8_init_9 rfl (lv_at hl 0 rfl) ?_
  refine lv_iconst (v := 0) hx hb dX8_init_10 (by decide) ?_
  refine va_put (D := (dC, dI)) (ci := 8) (v := .int 0) (C := RX8) (T := TX8) (N := 13) hx hb hts (fun _ h9 => List.mem_cons_of_mem _ (List.mem_append_right _ h9)) tyX8 tyX8_ok nmX8 hown hK hP hD hS 0 rfl rfl 1 (by decide) (hts (.fieldLink RX8 15 "SeatsRound$Table" "turn" "I") (List.mem_of_getElem? (i := 5) rfl)) (fun _ h9 => h9) rfl (tyX8_ok 1 (by decide)) rfl rfl (Nat.le_of_ble_eq_true rfl) dX8_init_11 (fun H locs hP hD hS => ?_)
  have hP : va_P (dC, dI) vwCl [(h0, .inr (8, [.int 0, .int 0, .int 0, .int 0, .int 0, .int 0, .int 0, .int 0, .null, .null, .null, .null, .null]))] H := hP
  have hD : va_D A [(h0, .inr (8, [.int 0, .int 0, .int 0, .int 0, .int 0, .int 0, .int 0, .int 0, .null, .null, .null, .null, .null]))] := hD
  refine lv_aload_n hx hb dX8_init_14 rfl (lv_at hl 0 rfl) ?_
  refine lv_iconst (v := 1) hx hb dX8_init_15 (by decide) ?_
  refine va_put (D := (dC, dI)) (ci := 8) (v := .int 1) (C := RX8) (T := TX8) (N := 13) hx hb hts (fun _ h9 => List.mem_cons_of_mem _ (List.mem_append_right _ h9)) tyX8 tyX8_ok nmX8 hown hK hP hD hS 0 rfl rfl 2 (by decide) (hts (.fieldLink RX8 18 "SeatsRound$Table" "copies" "I") (List.mem_of_getElem? (i := 6) rfl)) (fun _ h9 => h9) rfl (tyX8_ok 2 (by decide)) rfl rfl (Nat.le_of_ble_eq_true rfl) dX8_init_16 (fun H locs hP hD hS => ?_)
  have hP : va_P (dC, dI) vwCl [(h0, .inr (8, [.int 0, .int 0, .int 1, .int 0, .int 0, .int 0, .int 0, .int 0, .null, .null, .null, .null, .null]))] H := hP
  have hD : va_D A [(h0, .inr (8, [.int 0, .int 0, .int 1, .int 0, .int 0, .int 0, .int 0, .int 0, .null, .null, .null, .null, .null]))] := hD
  refine lv_aload_n hx hb dX8_init_19 rfl (lv_at hl 0 rfl) ?_
  change W _ _ _ _ _ _ _ _ _ _ _ _ _ _ _ (F0 m 20 ls [.ref h0])
  refine lv_iconst (v := 1) hx hb dX8_init_20 (by decide) ?_
  refine va_put (D := (dC, dI)) (ci := 8) (v := .int 1) (C := RX8) (T := TX8) (N := 13) hx hb hts (fun _ h9 => List.mem_cons_of_mem _ (List.mem_append_right _ h9)) tyX8 tyX8_ok nmX8 hown hK hP hD hS 0 rfl rfl 3 (by decide) (hts (.fieldLink RX8 21 "SeatsRound$Table" "streets" "I") (List.mem_of_getElem? (i := 7) rfl)) (fun _ h9 => h9) rfl (tyX8_ok 3 (by decide)) rfl rfl (Nat.le_of_ble_eq_true rfl) dX8_init_21 (fun H locs hP hD hS => ?_)
  have hP : va_P (dC, dI) vwCl [(h0, .inr (8, [.int 0, .int 0, .int 1, .int 1, .int 0, .int 0, .int 0, .int 0, .null, .null, .null, .null, .null]))] H := hP
  have hD : va_D A [(h0, .inr (8, [.int 0, .int 0, .int 1, .int 1, .int 0, .int 0, .int 0, .int 0, .null, .null, .null, .null, .null]))] := hD
  refine lv_aload_n hx hb dX8_init_24 rfl (lv_at hl 0 rfl) ?_
  refine lv_iconst (v := 0) hx hb dX8_init_25 (by decide) ?_
  refine va_put (D := (dC, dI)) (ci := 8) (v := .int 0) (C := RX8) (T := TX8) (N := 13) hx hb hts (fun _ h9 => List.mem_cons_of_mem _ (List.mem_append_right _ h9)) tyX8 tyX8_ok nmX8 hown hK hP hD hS 0 rfl rfl 4 (by decide) (hts (.fieldLink RX8 24 "SeatsRound$Table" "way" "I") (List.mem_of_getElem? (i := 8) rfl)) (fun _ h9 => h9) rfl (tyX8_ok 4 (by decide)) rfl rfl (Nat.le_of_ble_eq_true rfl) dX8_init_26 (fun H locs hP hD hS => ?_)
  have hP : va_P (dC, dI) vwCl [(h0, .inr (8, [.int 0, .int 0, .int 1, .int 1, .int 0, .int 0, .int 0, .int 0, .null, .null, .null, .null, .null]))] H := hP
  have hD : va_D A [(h0, .inr (8, [.int 0, .int 0, .int 1, .int 1, .int 0, .int 0, .int 0, .int 0, .null, .null, .null, .null, .null]))] := hD
  refine lv_aload_n hx hb dX8_init_29 rfl (lv_at hl 0 rfl) ?_
  refine lv_iconst (v := 0) hx hb dX8_init_30 (by decide) ?_
  refine va_put (D := (dC, dI)) (ci := 8) (v := .int 0) (C := RX8) (T := TX8) (N := 13) hx hb hts (fun _ h9 => List.mem_cons_of_mem _ (List.mem_append_right _ h9)) tyX8 tyX8_ok nmX8 hown hK hP hD hS 0 rfl rfl 5 (by decide) (hts (.fieldLink RX8 27 "SeatsRound$Table" "seats" "I") (List.mem_of_getElem? (i := 9) rfl)) (fun _ h9 => h9) rfl (tyX8_ok 5 (by decide)) rfl rfl (Nat.le_of_ble_eq_true rfl) dX8_init_31 (fun H locs hP hD hS => ?_)
  have hP : va_P (dC, dI) vwCl [(h0, .inr (8, [.int 0, .int 0, .int 1, .int 1, .int 0, .int 0, .int 0, .int 0, .null, .null, .null, .null, .null]))] H := hP
  have hD : va_D A [(h0, .inr (8, [.int 0, .int 0, .int 1, .int 1, .int 0, .int 0, .int 0, .int 0, .null, .null, .null, .null, .null]))] := hD
  change W _ _ _ _ _ _ _ _ _ _ _ _ _ _ _ (F0 m 34 ls [])
  refine lv_aload_n hx hb dX8_init_34 rfl (lv_at hl 0 rfl) ?_
  refine lv_iconst (v := 0) hx hb dX8_init_35 (by decide) ?_
  refine va_put (D := (dC, dI)) (ci := 8) (v := .int 0) (C := RX8) (T := TX8) (N := 13) hx hb hts (fun _ h9 => List.mem_cons_of_mem _ (List.mem_append_right _ h9)) tyX8 tyX8_ok nmX8 hown hK hP hD hS 0 rfl rfl 6 (by decide) (hts (.fieldLink RX8 30 "SeatsRound$Table" "lawLength" "I") (List.mem_of_getElem? (i := 10) rfl)) (fun _ h9 => h9) rfl (tyX8_ok 6 (by decide)) rfl rfl (Nat.le_of_ble_eq_true rfl) dX8_init_36 (fun H locs hP hD hS => ?_)
  have hP : va_P (dC, dI) vwCl [(h0, .inr (8, [.int 0, .int 0, .int 1, .int 1, .int 0, .int 0, .int 0, .int 0, .null, .null, .null, .null, .null]))] H := hP
  have hD : va_D A [(h0, .inr (8, [.int 0, .int 0, .int 1, .int 1, .int 0, .int 0, .int 0, .int 0, .null, .null, .null, .null, .null]))] := hD
  refine lv_aload_n hx hb dX8_init_39 rfl (lv_at hl 0 rfl) ?_
  refine lv_iconst (v := 0) hx hb dX8_init_40 (by decide) ?_
  refine va_put (D := (dC, dI)) (ci := 8) (v := .int 0) (C := RX8) (T := TX8) (N := 13) hx hb hts (fun _ h9 => List.mem_cons_of_mem _ (List.mem_append_right _ h9)) tyX8 tyX8_ok nmX8 hown hK hP hD hS 0 rfl rfl 7 (by decide) (hts (.fieldLink RX8 33 "SeatsRound$Table" "oddsCounted" "Z") (List.mem_of_getElem? (i := 11) rfl)) (fun _ h9 => h9) rfl (tyX8_ok 7 (by decide)) rfl rfl (Nat.le_of_ble_eq_true rfl) dX8_init_41 (fun H locs hP hD hS => ?_)
  have hP : va_P (dC, dI) vwCl [(h0, .inr (8, [.int 0, .int 0, .int 1, .int 1, .int 0, .int 0, .int 0, .int 0, .null, .null, .null, .null, .null]))] H := hP
  have hD : va_D A [(h0, .inr (8, [.int 0, .int 0, .int 1, .int 1, .int 0, .int 0, .int 0, .int 0, .null, .null, .null, .null, .null]))] := hD
  refine lv_aload_n hx hb dX8_init_44 rfl (lv_at hl 0 rfl) ?_
  refine lv_bipush (v := 12) hx hb dX8_init_45 (by decide) ?_
  change W _ _ _ _ _ _ _ _ _ _ _ _ _ _ _ (F0 m 47 ls [.int 12, .ref h0])
  refine vz_newa (atype := .int) (ty := .int) (t0 := 0) (N' := 12) (a0 := (12, .inl (fun _ => 0))) hx hb (hts (.arrayClass .int) (List.mem_of_getElem? (i := 12) rfl)) rfl rfl hK hP hD hS hA (fun _ => rfl) (by decide) rfl (by decide) (Nat.le_of_ble_eq_true rfl) (Nat.le_of_ble_eq_true rfl) dX8_init_47 (fun q_1 H hP hD hS => ?_)
  have hP : va_P (dC, dI) vwCl [(h0, .inr (8, [.int 0, .int 0, .int 1, .int 1, .int 0, .int 0, .int 0, .int 0, .null, .null, .null, .null, .null])), (q_1, .inl (cy 0, 12, .inl (fun _ => 0)))] H := hP
  have hD : va_D A [(h0, .inr (8, [.int 0, .int 0, .int 1, .int 1, .int 0, .int 0, .int 0, .int 0, .null, .null, .null, .null, .null])), (q_1, .inl (cy 0, 12, .inl (fun _ => 0)))] := hD
  refine W.widen (k := 1) (n := 12) (Nat.le_of_ble_eq_true rfl) (Nat.le_of_ble_eq_true rfl) ?_
  refine va_putF (D := (dC, dI)) (ci := 8) (v := .ref q_1) (C := RX8) (T := TX8) (N := 13) hx hb hts (fun _ h9 => List.mem_cons_of_mem _ (List.mem_append_right _ h9)) tyX8 tyX8_ok nmX8 hown hK hP hD hS 0 rfl rfl 8 (by decide) (hts (.fieldLink RX8 37 "SeatsRound$Table" "weight" "[I") (List.mem_of_getElem? (i := 13) rfl)) (fun _ h9 => h9) rfl hin rfl (tyX8_ok 8 (by decide)) rfl rfl (Nat.le_of_ble_eq_true rfl) dX8_init_49 (fun H locs hP hD hS => ?_)
  have hP : va_P (dC, dI) vwCl [(h0, .inr (8, [.int 0, .int 0, .int 1, .int 1, .int 0, .int 0, .int 0, .int 0, .ref q_1, .null, .null, .null, .null])), (q_1, .inl (cy 0, 12, .inl (fun _ => 0)))] H := hP
  have hD : va_D A [(h0, .inr (8, [.int 0, .int 0, .int 1, .int 1, .int 0, .int 0, .int 0, .int 0, .ref q_1, .null, .null, .null, .null])), (q_1, .inl (cy 0, 12, .inl (fun _ => 0)))] := hD
  refine lv_aload_n hx hb dX8_init_52 rfl (lv_at hl 0 rfl) ?_
  refine lv_bipush (v := 12) hx hb dX8_init_53 (by decide) ?_
  refine vz_newa (atype := .int) (ty := .int) (t0 := 0) (N' := 12) (a0 := (12, .inl (fun _ => 0))) hx hb (hts (.arrayClass .int) (List.mem_of_getElem? (i := 12) rfl)) rfl rfl hK hP hD hS hA (fun _ => rfl) (by decide) rfl (by decide) (Nat.le_of_ble_eq_true rfl) (Nat.le_of_ble_eq_true rfl) dX8_init_55 (fun q_2 H hP hD hS => ?_)
  have hP : va_P (dC, dI) vwCl [(h0, .inr (8, [.int 0, .int 0, .int 1, .int 1, .int 0, .int 0, .int 0, .int 0, .ref q_1, .null, .null, .null, .null])), (q_1, .inl (cy 0, 12, .inl (fun _ => 0))), (q_2, .inl (cy 0, 12, .inl (fun _ => 0)))] H := hP
  have hD : va_D A [(h0, .inr (8, [.int 0, .int 0, .int 1, .int 1, .int 0, .int 0, .int 0, .int 0, .ref q_1, .null, .null, .null, .null])), (q_1, .inl (cy 0, 12, .inl (fun _ => 0))), (q_2, .inl (cy 0, 12, .inl (fun _ => 0)))] := hD
  refine W.widen (k := 2) (n := 24) (Nat.le_of_ble_eq_true rfl) (Nat.le_of_ble_eq_true rfl) ?_
  refine va_putF (D := (dC, dI)) (ci := 8) (v := .ref q_2) (C := RX8) (T := TX8) (N := 13) hx hb hts (fun _ h9 => List.mem_cons_of_mem _ (List.mem_append_right _ h9)) tyX8 tyX8_ok nmX8 hown hK hP hD hS 0 rfl rfl 9 (by decide) (hts (.fieldLink RX8 41 "SeatsRound$Table" "odds" "[I") (List.mem_of_getElem? (i := 14) rfl)) (fun _ h9 => h9) rfl hin rfl (tyX8_ok 9 (by decide)) rfl rfl (Nat.le_of_ble_eq_true rfl) dX8_init_57 (fun H locs hP hD hS => ?_)
  have hP : va_P (dC, dI) vwCl [(h0, .inr (8, [.int 0, .int 0, .int 1, .int 1, .int 0, .int 0, .int 0, .int 0, .ref q_1, .ref q_2, .null, .null, .null])), (q_1, .inl (cy 0, 12, .inl (fun _ => 0))), (q_2, .inl (cy 0, 12, .inl (fun _ => 0)))] H := hP
  have hD : va_D A [(h0, .inr (8, [.int 0, .int 0, .int 1, .int 1, .int 0, .int 0, .int 0, .int 0, .ref q_1, .ref q_2, .null, .null, .null])), (q_1, .inl (cy 0, 12, .inl (fun _ => 0))), (q_2, .inl (cy 0, 12, .inl (fun _ => 0)))] := hD
  refine lv_aload_n hx hb dX8_init_60 rfl (lv_at hl 0 rfl) ?_
  refine lv_bipush (v := 80) hx hb dX8_init_61 (by decide) ?_
  change W _ _ _ _ _ _ _ _ _ _ _ _ _ _ _ (F0 m 63 ls [.int 80, .ref h0])
  refine vz_newa (atype := .byte) (ty := .byte) (t0 := 1) (N' := 80) (a0 := (80, .inl (fun _ => 0))) hx hb (hts (.arrayClass .byte) (List.mem_of_getElem? (i := 15) rfl)) rfl rfl hK hP hD hS hA (fun _ => rfl) (by decide) rfl (by decide) (Nat.le_of_ble_eq_true rfl) (Nat.le_of_ble_eq_true rfl) dX8_init_63 (fun q_3 H hP hD hS => ?_)
  have hP : va_P (dC, dI) vwCl [(h0, .inr (8, [.int 0, .int 0, .int 1, .int 1, .int 0, .int 0, .int 0, .int 0, .ref q_1, .ref q_2, .null, .null, .null])), (q_1, .inl (cy 0, 12, .inl (fun _ => 0))), (q_2, .inl (cy 0, 12, .inl (fun _ => 0))), (q_3, .inl (cy 1, 80, .inl (fun _ => 0)))] H := hP
  have hD : va_D A [(h0, .inr (8, [.int 0, .int 0, .int 1, .int 1, .int 0, .int 0, .int 0, .int 0, .ref q_1, .ref q_2, .null, .null, .null])), (q_1, .inl (cy 0, 12, .inl (fun _ => 0))), (q_2, .inl (cy 0, 12, .inl (fun _ => 0))), (q_3, .inl (cy 1, 80, .inl (fun _ => 0)))] := hD
  refine W.widen (k := 3) (n := 104) (Nat.le_of_ble_eq_true rfl) (Nat.le_of_ble_eq_true rfl) ?_
  refine va_putF (D := (dC, dI)) (ci := 8) (v := .ref q_3) (C := RX8) (T := TX8) (N := 13) hx hb hts (fun _ h9 => List.mem_cons_of_mem _ (List.mem_append_right _ h9)) tyX8 tyX8_ok nmX8 hown hK hP hD hS 0 rfl rfl 10 (by decide) (hts (.fieldLink RX8 44 "SeatsRound$Table" "law" "[B") (List.mem_of_getElem? (i := 16) rfl)) (fun _ h9 => h9) rfl hin rfl (tyX8_ok 10 (by decide)) rfl rfl (Nat.le_of_ble_eq_true rfl) dX8_init_65 (fun H locs hP hD hS => ?_)
  have hP : va_P (dC, dI) vwCl [(h0, .inr (8, [.int 0, .int 0, .int 1, .int 1, .int 0, .int 0, .int 0, .int 0, .ref q_1, .ref q_2, .ref q_3, .null, .null])), (q_1, .inl (cy 0, 12, .inl (fun _ => 0))), (q_2, .inl (cy 0, 12, .inl (fun _ => 0))), (q_3, .inl (cy 1, 80, .inl (fun _ => 0)))] H := hP
  have hD : va_D A [(h0, .inr (8, [.int 0, .int 0, .int 1, .int 1, .int 0, .int 0, .int 0, .int 0, .ref q_1, .ref q_2, .ref q_3, .null, .null])), (q_1, .inl (cy 0, 12, .inl (fun _ => 0))), (q_2, .inl (cy 0, 12, .inl (fun _ => 0))), (q_3, .inl (cy 1, 80, .inl (fun _ => 0)))] := hD
  refine lv_aload_n hx hb dX8_init_68 rfl (lv_at hl 0 rfl) ?_
  refine lv_sipush (v := 1000) hx hb dX8_init_69 (by decide) ?_
  refine vz_newa (atype := .byte) (ty := .byte) (t0 := 1) (N' := 1000) (a0 := (1000, .inl (fun _ => 0))) hx hb (hts (.arrayClass .byte) (List.mem_of_getElem? (i := 15) rfl)) rfl rfl hK hP hD hS hA (fun _ => rfl) (by decide) rfl (by decide) (Nat.le_of_ble_eq_true rfl) (Nat.le_of_ble_eq_true rfl) dX8_init_72 (fun q_4 H hP hD hS => ?_)
  have hP : va_P (dC, dI) vwCl [(h0, .inr (8, [.int 0, .int 0, .int 1, .int 1, .int 0, .int 0, .int 0, .int 0, .ref q_1, .ref q_2, .ref q_3, .null, .null])), (q_1, .inl (cy 0, 12, .inl (fun _ => 0))), (q_2, .inl (cy 0, 12, .inl (fun _ => 0))), (q_3, .inl (cy 1, 80, .inl (fun _ => 0))), (q_4, .inl (cy 1, 1000, .inl (fun _ => 0)))] H := hP
  have hD : va_D A [(h0, .inr (8, [.int 0, .int 0, .int 1, .int 1, .int 0, .int 0, .int 0, .int 0, .ref q_1, .ref q_2, .ref q_3, .null, .null])), (q_1, .inl (cy 0, 12, .inl (fun _ => 0))), (q_2, .inl (cy 0, 12, .inl (fun _ => 0))), (q_3, .inl (cy 1, 80, .inl (fun _ => 0))), (q_4, .inl (cy 1, 1000, .inl (fun _ => 0)))] := hD
  refine W.widen (k := 4) (n := 1104) (Nat.le_of_ble_eq_true rfl) (Nat.le_of_ble_eq_true rfl) ?_
  refine va_putF (D := (dC, dI)) (ci := 8) (v := .ref q_4) (C := RX8) (T := TX8) (N := 13) hx hb hts (fun _ h9 => List.mem_cons_of_mem _ (List.mem_append_right _ h9)) tyX8 tyX8_ok nmX8 hown hK hP hD hS 0 rfl rfl 11 (by decide) (hts (.fieldLink RX8 48 "SeatsRound$Table" "owner" "[B") (List.mem_of_getElem? (i := 17) rfl)) (fun _ h9 => h9) rfl hin rfl (tyX8_ok 11 (by decide)) rfl rfl (Nat.le_of_ble_eq_true rfl) dX8_init_74 (fun H locs hP hD hS => ?_)
  have hP : va_P (dC, dI) vwCl [(h0, .inr (8, [.int 0, .int 0, .int 1, .int 1, .int 0, .int 0, .int 0, .int 0, .ref q_1, .ref q_2, .ref q_3, .ref q_4, .null])), (q_1, .inl (cy 0, 12, .inl (fun _ => 0))), (q_2, .inl (cy 0, 12, .inl (fun _ => 0))), (q_3, .inl (cy 1, 80, .inl (fun _ => 0))), (q_4, .inl (cy 1, 1000, .inl (fun _ => 0)))] H := hP
  have hD : va_D A [(h0, .inr (8, [.int 0, .int 0, .int 1, .int 1, .int 0, .int 0, .int 0, .int 0, .ref q_1, .ref q_2, .ref q_3, .ref q_4, .null])), (q_1, .inl (cy 0, 12, .inl (fun _ => 0))), (q_2, .inl (cy 0, 12, .inl (fun _ => 0))), (q_3, .inl (cy 1, 80, .inl (fun _ => 0))), (q_4, .inl (cy 1, 1000, .inl (fun _ => 0)))] := hD
  refine lv_aload_n hx hb dX8_init_77 rfl (lv_at hl 0 rfl) ?_
  refine lv_sipush (v := 1000) hx hb dX8_init_78 (by decide) ?_
  change W _ _ _ _ _ _ _ _ _ _ _ _ _ _ _ (F0 m 81 ls [.int 1000, .ref h0])
  refine vz_newa (atype := .short) (ty := .short) (t0 := 3) (N' := 1000) (a0 := (1000, .inl (fun _ => 0))) hx hb (hts (.arrayClass .short) (List.mem_of_getElem? (i := 18) rfl)) rfl rfl hK hP hD hS hA (fun _ => rfl) (by decide) rfl (by decide) (Nat.le_of_ble_eq_true rfl) (Nat.le_of_ble_eq_true rfl) dX8_init_81 (fun q_5 H hP hD hS => ?_)
  have hP : va_P (dC, dI) vwCl [(h0, .inr (8, [.int 0, .int 0, .int 1, .int 1, .int 0, .int 0, .int 0, .int 0, .ref q_1, .ref q_2, .ref q_3, .ref q_4, .null])), (q_1, .inl (cy 0, 12, .inl (fun _ => 0))), (q_2, .inl (cy 0, 12, .inl (fun _ => 0))), (q_3, .inl (cy 1, 80, .inl (fun _ => 0))), (q_4, .inl (cy 1, 1000, .inl (fun _ => 0))), (q_5, .inl (cy 3, 1000, .inl (fun _ => 0)))] H := hP
  have hD : va_D A [(h0, .inr (8, [.int 0, .int 0, .int 1, .int 1, .int 0, .int 0, .int 0, .int 0, .ref q_1, .ref q_2, .ref q_3, .ref q_4, .null])), (q_1, .inl (cy 0, 12, .inl (fun _ => 0))), (q_2, .inl (cy 0, 12, .inl (fun _ => 0))), (q_3, .inl (cy 1, 80, .inl (fun _ => 0))), (q_4, .inl (cy 1, 1000, .inl (fun _ => 0))), (q_5, .inl (cy 3, 1000, .inl (fun _ => 0)))] := hD
  refine W.widen (k := 5) (n := 2104) (Nat.le_of_ble_eq_true rfl) (Nat.le_of_ble_eq_true rfl) ?_
  refine va_putF (D := (dC, dI)) (ci := 8) (v := .ref q_5) (C := RX8) (T := TX8) (N := 13) hx hb hts (fun _ h9 => List.mem_cons_of_mem _ (List.mem_append_right _ h9)) tyX8 tyX8_ok nmX8 hown hK hP hD hS 0 rfl rfl 12 (by decide) (hts (.fieldLink RX8 51 "SeatsRound$Table" "ahead" "[S") (List.mem_of_getElem? (i := 19) rfl)) (fun _ h9 => h9) rfl hin rfl (tyX8_ok 12 (by decide)) rfl rfl (Nat.le_of_ble_eq_true rfl) dX8_init_83 (fun H locs hP hD hS => ?_)
  have hP : va_P (dC, dI) vwCl [(h0, .inr (8, [.int 0, .int 0, .int 1, .int 1, .int 0, .int 0, .int 0, .int 0, .ref q_1, .ref q_2, .ref q_3, .ref q_4, .ref q_5])), (q_1, .inl (cy 0, 12, .inl (fun _ => 0))), (q_2, .inl (cy 0, 12, .inl (fun _ => 0))), (q_3, .inl (cy 1, 80, .inl (fun _ => 0))), (q_4, .inl (cy 1, 1000, .inl (fun _ => 0))), (q_5, .inl (cy 3, 1000, .inl (fun _ => 0)))] H := hP
  have hD : va_D A [(h0, .inr (8, [.int 0, .int 0, .int 1, .int 1, .int 0, .int 0, .int 0, .int 0, .ref q_1, .ref q_2, .ref q_3, .ref q_4, .ref q_5])), (q_1, .inl (cy 0, 12, .inl (fun _ => 0))), (q_2, .inl (cy 0, 12, .inl (fun _ => 0))), (q_3, .inl (cy 1, 80, .inl (fun _ => 0))), (q_4, .inl (cy 1, 1000, .inl (fun _ => 0))), (q_5, .inl (cy 3, 1000, .inl (fun _ => 0)))] := hD
  exact W.vret hx hb hr (fun t ht hW => ⟨⟨(fun k => [(fun j => [q_1, q_2, q_3, q_4, q_5].getD j 0)].getD k (fun _ => 0)), rfl, trivial, ⟨by rw [ht]; exact hP, hD⟩⟩, hS.F ht⟩) hS.2.2 dX8_init_86
set_option maxHeartbeats 4000000 in
set_option maxRecDepth 100000 in
theorem i_Parcels (l : Launch) (dC : Nat → ClassId) (dI : Nat → Nat → Nat) (cy : Nat → ClassId) (h0 : Nat) (k0 : Nat) (k1 : Nat) (k2 : Nat) (sz : Nat)  : Met l yX6_init wsX6_init ({ frames := 1, cells := 68, slots := 2532, locals := 23 }) (va_Pc [.ref h0, .ref k0, .ref k1, .ref k2] (wPre (dC, dI) cy [(h0, .inr (6, [.null, .null, .null, .null, .null, .null, .null, .null, .int 0, .null, .null, .null]))] sz)) (va_Qv (fun (u : Nat → Nat → Nat) => True) (fun (u : Nat → Nat → Nat) t => wAt (dC, dI) (va_A [(h0, .inr (6, [.null, .null, .null, .null, .null, .null, .null, .null, .int 0, .null, .null, .null]))] sz) (([(h0, .inr (6, [.ref (u 0 0), .ref (u 0 1), .ref (u 0 2), .ref (u 0 3), .ref (u 0 4), .ref (u 0 5), .ref (u 0 6), .ref (u 0 7), .int 0, .ref k0, .ref k1, .ref k2])), ((u 0 0), .inl (cy 6, 12, .inr (.inr (.inr (.inr (fun i => if i < 12 then some ((u 5) i) else none)))))), ((u 0 1), .inl (cy 6, 12, .inr (.inr (.inr (.inr (fun i => if i < 12 then some ((u 4) i) else none)))))), ((u 0 2), .inl (cy 6, 12, .inr (.inr (.inr (.inr (fun i => if i < 12 then some ((u 3) i) else none)))))), ((u 0 3), .inl (cy 6, 12, .inr (.inr (.inr (.inr (fun i => if i < 12 then some ((u 2) i) else none)))))), ((u 0 4), .inl (cy 6, 12, .inr (.inr (.inr (.inr (fun i => if i < 12 then some ((u 1) i) else none)))))), ((u 0 5), .inl (cy 0, 40, .inl (fun _ => 0))), ((u 0 6), .inl (cy 0, 16, .inl (fun _ => 0))), ((u 0 7), .inl (cy 0, 16, .inl (fun _ => 0)))] : va_W) ++ (((List.range 12).map (fun i => (((u 1) i, .inl (cy 0, 40, .inl (fun _ => 0))) : Nat × va_E))) ++ (((List.range 12).map (fun i => (((u 2) i, .inl (cy 0, 40, .inl (fun _ => 0))) : Nat × va_E))) ++ (((List.range 12).map (fun i => (((u 3) i, .inl (cy 0, 40, .inl (fun _ => 0))) : Nat × va_E))) ++ (((List.range 12).map (fun i => (((u 4) i, .inl (cy 0, 40, .inl (fun _ => 0))) : Nat × va_E))) ++ ((List.range 12).map (fun i => (((u 5) i, .inl (cy 0, 40, .inl (fun _ => 0))) : Nat × va_E)))))))) t) (va_A [(h0, .inr (6, [.null, .null, .null, .null, .null, .null, .null, .null, .int 0, .null, .null, .null]))] sz)) 68 2532 (va_A [(h0, .inr (6, [.null, .null, .null, .null, .null, .null, .null, .null, .int 0, .null, .null, .null]))] sz) := by
  refine Met.ofW (cc := cX6_init) (maxL := 4) (ret := none) (by decide) rfl ?_
  intro p e s m args below meth c s₁ B hml hv
  obtain ⟨rfl, hsz, hP, hK, hD0, hN⟩ := hv
  have hx := B.exec
  have hb := B.bytes
  have hr := B.returns
  have hts := atoms_spec (ws := wsX6_init) B.pre
  have hown : s.vm.findClass RX6 = some m.cls := findClass_of_methodNamed B.named
  have hlocks := B.notSynchronized
  subst hsz
  have hin : meth.name = "<init>" := (name_of_methodNamed B.named B.method).1
  have hD := hD0.self (sz := s.heap.size)
  generalize hAe : va_A [(h0, .inr (6, [.null, .null, .null, .null, .null, .null, .null, .null, .int 0, .null, .null, .null]))] s.heap.size = A at hD ⊢
  have hA : ∀ q : Nat, s.heap.size ≤ q → A q := fun q h => by rw [← hAe]; exact Or.inr h
  have hS : va_S A s.heap s.heap [] := va_S.rf
  have hl := lv_entry ([.ref h0, .ref k0, .ref k1, .ref k2]) (n := 4) (Nat.le_of_ble_eq_true rfl)
  rw [lg_entry_eq]
  generalize (lg_sl ([.ref h0, .ref k0, .ref k1, .ref k2]) ++ List.replicate (4 - (lg_sl ([.ref h0, .ref k0, .ref k1, .ref k2])).length) Slot.unset).toArray = ls at hl ⊢
  have hl : lv_has ls 4 [(0, .ref h0), (1, .ref k0), (2, .ref k1), (3, .ref k2)] := hl
  refine lv_aload_n hx hb dX6_init_0 rfl (lv_at hl 0 rfl) ?_
  refine W.objInit hx hb hown (hts (.methodLink RX6 3 objectInit) (List.mem_of_getElem? (i := 1) rfl)) (hts (.instanceMethod objectInit) (List.mem_of_getElem? (i := 2) rfl)) (hts (.code objectInit ⟨#[0xb1]⟩ 1 none) (List.mem_of_getElem? (i := 3) rfl)) rfl (hl.1.trans hml.symm) rfl dX6_init_1 (Nat.le_of_ble_eq_true rfl) (Nat.le_of_ble_eq_true rfl) ?_
  refine lv_aload_n hx hb dX6_init_4 rfl (lv_at hl 0 rfl) ?_
  change W _ _ _ _ _ _ _ _ _ _ _ _ _ _ _ (F0 m 5 ls [.ref h0])
  refine lv_bipush (v := 12) hx hb dX6_init_5 (by decide) ?_
  refine lv_bipush (v := 40) hx hb dX6_init_7 (by decide) ?_
  refine vz_mna (t0 := 6) (t1 := 0) (N' := 12) (K' := 40) (z := (40, .inl (fun _ => 0))) (ty := .int) hx hb hown (hts (.classLink RX6 9 "[[I") (List.mem_of_getElem? (i := 4) rfl)) hN.2.2.2.1 (hts (.arrayClass .int) (List.mem_of_getElem? (i := 5) rfl)) rfl (hK.2 0 _ rfl).2 hK hP hD hS hA (by decide) (by decide) rfl rfl (by decide) (by decide) (by decide) rfl rfl (Nat.le_of_ble_eq_true rfl) (Nat.le_of_ble_eq_true rfl) (fun _ => rfl) dX6_init_9 (fun q_1 r_2 H hP hD hS => ?_)
  have hP := wz_P0 hP
  have hD := wz_D0 hD
  have hP : va_P (dC, dI) vwCl (([(h0, .inr (6, [.null, .null, .null, .null, .null, .null, .null, .null, .int 0, .null, .null, .null])), (q_1, .inl (cy 6, 12, .inr (.inr (.inr (.inr (fun i => if i < 12 then some (r_2 i) else none))))))] : va_W) ++ ((List.range 12).map (fun i => ((r_2 i, .inl (cy 0, 40, .inl (fun _ => 0))) : Nat × va_E)))) H := hP
  have hD : va_D A (([(h0, .inr (6, [.null, .null, .null, .null, .null, .null, .null, .null, .int 0, .null, .null, .null])), (q_1, .inl (cy 6, 12, .inr (.inr (.inr (.inr (fun i => if i < 12 then some (r_2 i) else none))))))] : va_W) ++ ((List.range 12).map (fun i => ((r_2 i, .inl (cy 0, 40, .inl (fun _ => 0))) : Nat × va_E)))) := hD
  refine W.widen (k := 13) (n := 492) (Nat.le_of_ble_eq_true rfl) (Nat.le_of_ble_eq_true rfl) ?_
  refine va_putF (D := (dC, dI)) (ci := 6) (v := .ref q_1) (C := RX6) (T := TX6) (N := 12) hx hb hts (fun _ h9 => List.mem_cons_of_mem _ (List.mem_append_right _ h9)) tyX6 tyX6_ok nmX6 hown hK hP hD hS 0 rfl rfl 0 (by decide) (hts (.fieldLink RX6 11 "SeatsRound$Parcels" "version" "[[I") (List.mem_of_getElem? (i := 6) rfl)) (fun _ h9 => h9) rfl hin rfl (tyX6_ok 0 (by decide)) rfl rfl (Nat.le_of_ble_eq_true rfl) dX6_init_13 (fun H locs hP hD hS => ?_)
  have hP : va_P (dC, dI) vwCl (([(h0, .inr (6, [.ref q_1, .null, .null, .null, .null, .null, .null, .null, .int 0, .null, .null, .null])), (q_1, .inl (cy 6, 12, .inr (.inr (.inr (.inr (fun i => if i < 12 then some (r_2 i) else none))))))] : va_W) ++ ((List.range 12).map (fun i => ((r_2 i, .inl (cy 0, 40, .inl (fun _ => 0))) : Nat × va_E)))) H := hP
  have hD : va_D A (([(h0, .inr (6, [.ref q_1, .null, .null, .null, .null, .null, .null, .null, .int 0, .null, .null, .null])), (q_1, .inl (cy 6, 12, .inr (.inr (.inr (.inr (fun i => if i < 12 then some (r_2 i) else none))))))] : va_W) ++ ((List.range 12).map (fun i => ((r_2 i, .inl (cy 0, 40, .inl (fun _ => 0))) : Nat × va_E)))) := hD
  refine lv_aload_n hx hb dX6_init_16 rfl (lv_at hl 0 rfl) ?_
  refine lv_bipush (v := 12) hx hb dX6_init_17 (by decide) ?_
  refine lv_bipush (v := 40) hx hb dX6_init_19 (by decide) ?_
  refine vz_mna (t0 := 6) (t1 := 0) (N' := 12) (K' := 40) (z := (40, .inl (fun _ => 0))) (ty := .int) hx hb hown (hts (.classLink RX6 9 "[[I") (List.mem_of_getElem? (i := 4) rfl)) hN.2.2.2.1 (hts (.arrayClass .int) (List.mem_of_getElem? (i := 5) rfl)) rfl (hK.2 0 _ rfl).2 hK hP hD hS hA (by decide) (by decide) rfl rfl (by decide) (by decide) (by decide) rfl rfl (Nat.le_of_ble_eq_true rfl) (Nat.le_of_ble_eq_true rfl) (fun _ => rfl) dX6_init_21 (fun q_3 r_4 H hP hD hS => ?_)
  have hP := wz_P hP
  have hD := wz_D hD
  have hP : va_P (dC, dI) vwCl (([(h0, .inr (6, [.ref q_1, .null, .null, .null, .null, .null, .null, .null, .int 0, .null, .null, .null])), (q_1, .inl (cy 6, 12, .inr (.inr (.inr (.inr (fun i => if i < 12 then some (r_2 i) else none)))))), (q_3, .inl (cy 6, 12, .inr (.inr (.inr (.inr (fun i => if i < 12 then some (r_4 i) else none))))))] : va_W) ++ (((List.range 12).map (fun i => ((r_4 i, .inl (cy 0, 40, .inl (fun _ => 0))) : Nat × va_E))) ++ ((List.range 12).map (fun i => ((r_2 i, .inl (cy 0, 40, .inl (fun _ => 0))) : Nat × va_E))))) H := hP
  have hD : va_D A (([(h0, .inr (6, [.ref q_1, .null, .null, .null, .null, .null, .null, .null, .int 0, .null, .null, .null])), (q_1, .inl (cy 6, 12, .inr (.inr (.inr (.inr (fun i => if i < 12 then some (r_2 i) else none)))))), (q_3, .inl (cy 6, 12, .inr (.inr (.inr (.inr (fun i => if i < 12 then some (r_4 i) else none))))))] : va_W) ++ (((List.range 12).map (fun i => ((r_4 i, .inl (cy 0, 40, .inl (fun _ => 0))) : Nat × va_E))) ++ ((List.range 12).map (fun i => ((r_2 i, .inl (cy 0, 40, .inl (fun _ => 0))) : Nat × va_E))))) := hD
  refine W.widen (k := 26) (n := 984) (Nat.le_of_ble_eq_true rfl) (Nat.le_of_ble_eq_true rfl) ?_
  change W _ _ _ _ _ _ _ _ _ _ _ _ _ _ _ (F0 m 25 ls [.ref q_3, .ref h0])
  refine va_putF (D := (dC, dI)) (ci := 6) (v := .ref q_3) (C := RX6) (T := TX6) (N := 12) hx hb hts (fun _ h9 => List.mem_cons_of_mem _ (List.mem_append_right _ h9)) tyX6 tyX6_ok nmX6 hown hK hP hD hS 0 rfl rfl 1 (by decide) (hts (.fieldLink RX6 16 "SeatsRound$Parcels" "kept" "[[I") (List.mem_of_getElem? (i := 7) rfl)) (fun _ h9 => h9) rfl hin rfl (tyX6_ok 1 (by decide)) rfl rfl (Nat.le_of_ble_eq_true rfl) dX6_init_25 (fun H locs hP hD hS => ?_)
  have hP : va_P (dC, dI) vwCl (([(h0, .inr (6, [.ref q_1, .ref q_3, .null, .null, .null, .null, .null, .null, .int 0, .null, .null, .null])), (q_1, .inl (cy 6, 12, .inr (.inr (.inr (.inr (fun i => if i < 12 then some (r_2 i) else none)))))), (q_3, .inl (cy 6, 12, .inr (.inr (.inr (.inr (fun i => if i < 12 then some (r_4 i) else none))))))] : va_W) ++ (((List.range 12).map (fun i => ((r_4 i, .inl (cy 0, 40, .inl (fun _ => 0))) : Nat × va_E))) ++ ((List.range 12).map (fun i => ((r_2 i, .inl (cy 0, 40, .inl (fun _ => 0))) : Nat × va_E))))) H := hP
  have hD : va_D A (([(h0, .inr (6, [.ref q_1, .ref q_3, .null, .null, .null, .null, .null, .null, .int 0, .null, .null, .null])), (q_1, .inl (cy 6, 12, .inr (.inr (.inr (.inr (fun i => if i < 12 then some (r_2 i) else none)))))), (q_3, .inl (cy 6, 12, .inr (.inr (.inr (.inr (fun i => if i < 12 then some (r_4 i) else none))))))] : va_W) ++ (((List.range 12).map (fun i => ((r_4 i, .inl (cy 0, 40, .inl (fun _ => 0))) : Nat × va_E))) ++ ((List.range 12).map (fun i => ((r_2 i, .inl (cy 0, 40, .inl (fun _ => 0))) : Nat × va_E))))) := hD
  refine lv_aload_n hx hb dX6_init_28 rfl (lv_at hl 0 rfl) ?_
  refine lv_bipush (v := 12) hx hb dX6_init_29 (by decide) ?_
  refine lv_bipush (v := 40) hx hb dX6_init_31 (by decide) ?_
  refine vz_mna (t0 := 6) (t1 := 0) (N' := 12) (K' := 40) (z := (40, .inl (fun _ => 0))) (ty := .int) hx hb hown (hts (.classLink RX6 9 "[[I") (List.mem_of_getElem? (i := 4) rfl)) hN.2.2.2.1 (hts (.arrayClass .int) (List.mem_of_getElem? (i := 5) rfl)) rfl (hK.2 0 _ rfl).2 hK hP hD hS hA (by decide) (by decide) rfl rfl (by decide) (by decide) (by decide) rfl rfl (Nat.le_of_ble_eq_true rfl) (Nat.le_of_ble_eq_true rfl) (fun _ => rfl) dX6_init_33 (fun q_5 r_6 H hP hD hS => ?_)
  have hP := wz_P hP
  have hD := wz_D hD
  have hP : va_P (dC, dI) vwCl (([(h0, .inr (6, [.ref q_1, .ref q_3, .null, .null, .null, .null, .null, .null, .int 0, .null, .null, .null])), (q_1, .inl (cy 6, 12, .inr (.inr (.inr (.inr (fun i => if i < 12 then some (r_2 i) else none)))))), (q_3, .inl (cy 6, 12, .inr (.inr (.inr (.inr (fun i => if i < 12 then some (r_4 i) else none)))))), (q_5, .inl (cy 6, 12, .inr (.inr (.inr (.inr (fun i => if i < 12 then some (r_6 i) else none))))))] : va_W) ++ (((List.range 12).map (fun i => ((r_6 i, .inl (cy 0, 40, .inl (fun _ => 0))) : Nat × va_E))) ++ (((List.range 12).map (fun i => ((r_4 i, .inl (cy 0, 40, .inl (fun _ => 0))) : Nat × va_E))) ++ ((List.range 12).map (fun i => ((r_2 i, .inl (cy 0, 40, .inl (fun _ => 0))) : Nat × va_E)))))) H := hP
  have hD : va_D A (([(h0, .inr (6, [.ref q_1, .ref q_3, .null, .null, .null, .null, .null, .null, .int 0, .null, .null, .null])), (q_1, .inl (cy 6, 12, .inr (.inr (.inr (.inr (fun i => if i < 12 then some (r_2 i) else none)))))), (q_3, .inl (cy 6, 12, .inr (.inr (.inr (.inr (fun i => if i < 12 then some (r_4 i) else none)))))), (q_5, .inl (cy 6, 12, .inr (.inr (.inr (.inr (fun i => if i < 12 then some (r_6 i) else none))))))] : va_W) ++ (((List.range 12).map (fun i => ((r_6 i, .inl (cy 0, 40, .inl (fun _ => 0))) : Nat × va_E))) ++ (((List.range 12).map (fun i => ((r_4 i, .inl (cy 0, 40, .inl (fun _ => 0))) : Nat × va_E))) ++ ((List.range 12).map (fun i => ((r_2 i, .inl (cy 0, 40, .inl (fun _ => 0))) : Nat × va_E)))))) := hD
  refine W.widen (k := 39) (n := 1476) (Nat.le_of_ble_eq_true rfl) (Nat.le_of_ble_eq_true rfl) ?_
  refine va_putF (D := (dC, dI)) (ci := 6) (v := .ref q_5) (C := RX6) (T := TX6) (N := 12) hx hb hts (fun _ h9 => List.mem_cons_of_mem _ (List.mem_append_right _ h9)) tyX6 tyX6_ok nmX6 hown hK hP hD hS 0 rfl rfl 2 (by decide) (hts (.fieldLink RX6 19 "SeatsRound$Parcels" "keptFor" "[[I") (List.mem_of_getElem? (i := 8) rfl)) (fun _ h9 => h9) rfl hin rfl (tyX6_ok 2 (by decide)) rfl rfl (Nat.le_of_ble_eq_true rfl) dX6_init_37 (fun H locs hP hD hS => ?_)
  have hP : va_P (dC, dI) vwCl (([(h0, .inr (6, [.ref q_1, .ref q_3, .ref q_5, .null, .null, .null, .null, .null, .int 0, .null, .null, .null])), (q_1, .inl (cy 6, 12, .inr (.inr (.inr (.inr (fun i => if i < 12 then some (r_2 i) else none)))))), (q_3, .inl (cy 6, 12, .inr (.inr (.inr (.inr (fun i => if i < 12 then some (r_4 i) else none)))))), (q_5, .inl (cy 6, 12, .inr (.inr (.inr (.inr (fun i => if i < 12 then some (r_6 i) else none))))))] : va_W) ++ (((List.range 12).map (fun i => ((r_6 i, .inl (cy 0, 40, .inl (fun _ => 0))) : Nat × va_E))) ++ (((List.range 12).map (fun i => ((r_4 i, .inl (cy 0, 40, .inl (fun _ => 0))) : Nat × va_E))) ++ ((List.range 12).map (fun i => ((r_2 i, .inl (cy 0, 40, .inl (fun _ => 0))) : Nat × va_E)))))) H := hP
  have hD : va_D A (([(h0, .inr (6, [.ref q_1, .ref q_3, .ref q_5, .null, .null, .null, .null, .null, .int 0, .null, .null, .null])), (q_1, .inl (cy 6, 12, .inr (.inr (.inr (.inr (fun i => if i < 12 then some (r_2 i) else none)))))), (q_3, .inl (cy 6, 12, .inr (.inr (.inr (.inr (fun i => if i < 12 then some (r_4 i) else none)))))), (q_5, .inl (cy 6, 12, .inr (.inr (.inr (.inr (fun i => if i < 12 then some (r_6 i) else none))))))] : va_W) ++ (((List.range 12).map (fun i => ((r_6 i, .inl (cy 0, 40, .inl (fun _ => 0))) : Nat × va_E))) ++ (((List.range 12).map (fun i => ((r_4 i, .inl (cy 0, 40, .inl (fun _ => 0))) : Nat × va_E))) ++ ((List.range 12).map (fun i => ((r_2 i, .inl (cy 0, 40, .inl (fun _ => 0))) : Nat × va_E)))))) := hD
  refine lv_aload_n hx hb dX6_init_40 rfl (lv_at hl 0 rfl) ?_
  refine lv_bipush (v := 12) hx hb dX6_init_41 (by decide) ?_
  change W _ _ _ _ _ _ _ _ _ _ _ _ _ _ _ (F0 m 43 ls [.int 12, .ref h0])
  refine lv_bipush (v := 40) hx hb dX6_init_43 (by decide) ?_
  refine vz_mna (t0 := 6) (t1 := 0) (N' := 12) (K' := 40) (z := (40, .inl (fun _ => 0))) (ty := .int) hx hb hown (hts (.classLink RX6 9 "[[I") (List.mem_of_getElem? (i := 4) rfl)) hN.2.2.2.1 (hts (.arrayClass .int) (List.mem_of_getElem? (i := 5) rfl)) rfl (hK.2 0 _ rfl).2 hK hP hD hS hA (by decide) (by decide) rfl rfl (by decide) (by decide) (by decide) rfl rfl (Nat.le_of_ble_eq_true rfl) (Nat.le_of_ble_eq_true rfl) (fun _ => rfl) dX6_init_45 (fun q_7 r_8 H hP hD hS => ?_)
  have hP := wz_P hP
  have hD := wz_D hD
  have hP : va_P (dC, dI) vwCl (([(h0, .inr (6, [.ref q_1, .ref q_3, .ref q_5, .null, .null, .null, .null, .null, .int 0, .null, .null, .null])), (q_1, .inl (cy 6, 12, .inr (.inr (.inr (.inr (fun i => if i < 12 then some (r_2 i) else none)))))), (q_3, .inl (cy 6, 12, .inr (.inr (.inr (.inr (fun i => if i < 12 then some (r_4 i) else none)))))), (q_5, .inl (cy 6, 12, .inr (.inr (.inr (.inr (fun i => if i < 12 then some (r_6 i) else none)))))), (q_7, .inl (cy 6, 12, .inr (.inr (.inr (.inr (fun i => if i < 12 then some (r_8 i) else none))))))] : va_W) ++ (((List.range 12).map (fun i => ((r_8 i, .inl (cy 0, 40, .inl (fun _ => 0))) : Nat × va_E))) ++ (((List.range 12).map (fun i => ((r_6 i, .inl (cy 0, 40, .inl (fun _ => 0))) : Nat × va_E))) ++ (((List.range 12).map (fun i => ((r_4 i, .inl (cy 0, 40, .inl (fun _ => 0))) : Nat × va_E))) ++ ((List.range 12).map (fun i => ((r_2 i, .inl (cy 0, 40, .inl (fun _ => 0))) : Nat × va_E))))))) H := hP
  have hD : va_D A (([(h0, .inr (6, [.ref q_1, .ref q_3, .ref q_5, .null, .null, .null, .null, .null, .int 0, .null, .null, .null])), (q_1, .inl (cy 6, 12, .inr (.inr (.inr (.inr (fun i => if i < 12 then some (r_2 i) else none)))))), (q_3, .inl (cy 6, 12, .inr (.inr (.inr (.inr (fun i => if i < 12 then some (r_4 i) else none)))))), (q_5, .inl (cy 6, 12, .inr (.inr (.inr (.inr (fun i => if i < 12 then some (r_6 i) else none)))))), (q_7, .inl (cy 6, 12, .inr (.inr (.inr (.inr (fun i => if i < 12 then some (r_8 i) else none))))))] : va_W) ++ (((List.range 12).map (fun i => ((r_8 i, .inl (cy 0, 40, .inl (fun _ => 0))) : Nat × va_E))) ++ (((List.range 12).map (fun i => ((r_6 i, .inl (cy 0, 40, .inl (fun _ => 0))) : Nat × va_E))) ++ (((List.range 12).map (fun i => ((r_4 i, .inl (cy 0, 40, .inl (fun _ => 0))) : Nat × va_E))) ++ ((List.range 12).map (fun i => ((r_2 i, .inl (cy 0, 40, .inl (fun _ => 0))) : Nat × va_E))))))) := hD
  refine W.widen (k := 52) (n := 1968) (Nat.le_of_ble_eq_true rfl) (Nat.le_of_ble_eq_true rfl) ?_
  refine va_putF (D := (dC, dI)) (ci := 6) (v := .ref q_7) (C := RX6) (T := TX6) (N := 12) hx hb hts (fun _ h9 => List.mem_cons_of_mem _ (List.mem_append_right _ h9)) tyX6 tyX6_ok nmX6 hown hK hP hD hS 0 rfl rfl 3 (by decide) (hts (.fieldLink RX6 22 "SeatsRound$Parcels" "pieces" "[[I") (List.mem_of_getElem? (i := 9) rfl)) (fun _ h9 => h9) rfl hin rfl (tyX6_ok 3 (by decide)) rfl rfl (Nat.le_of_ble_eq_true rfl) dX6_init_49 (fun H locs hP hD hS => ?_)
  have hP : va_P (dC, dI) vwCl (([(h0, .inr (6, [.ref q_1, .ref q_3, .ref q_5, .ref q_7, .null, .null, .null, .null, .int 0, .null, .null, .null])), (q_1, .inl (cy 6, 12, .inr (.inr (.inr (.inr (fun i => if i < 12 then some (r_2 i) else none)))))), (q_3, .inl (cy 6, 12, .inr (.inr (.inr (.inr (fun i => if i < 12 then some (r_4 i) else none)))))), (q_5, .inl (cy 6, 12, .inr (.inr (.inr (.inr (fun i => if i < 12 then some (r_6 i) else none)))))), (q_7, .inl (cy 6, 12, .inr (.inr (.inr (.inr (fun i => if i < 12 then some (r_8 i) else none))))))] : va_W) ++ (((List.range 12).map (fun i => ((r_8 i, .inl (cy 0, 40, .inl (fun _ => 0))) : Nat × va_E))) ++ (((List.range 12).map (fun i => ((r_6 i, .inl (cy 0, 40, .inl (fun _ => 0))) : Nat × va_E))) ++ (((List.range 12).map (fun i => ((r_4 i, .inl (cy 0, 40, .inl (fun _ => 0))) : Nat × va_E))) ++ ((List.range 12).map (fun i => ((r_2 i, .inl (cy 0, 40, .inl (fun _ => 0))) : Nat × va_E))))))) H := hP
  have hD : va_D A (([(h0, .inr (6, [.ref q_1, .ref q_3, .ref q_5, .ref q_7, .null, .null, .null, .null, .int 0, .null, .null, .null])), (q_1, .inl (cy 6, 12, .inr (.inr (.inr (.inr (fun i => if i < 12 then some (r_2 i) else none)))))), (q_3, .inl (cy 6, 12, .inr (.inr (.inr (.inr (fun i => if i < 12 then some (r_4 i) else none)))))), (q_5, .inl (cy 6, 12, .inr (.inr (.inr (.inr (fun i => if i < 12 then some (r_6 i) else none)))))), (q_7, .inl (cy 6, 12, .inr (.inr (.inr (.inr (fun i => if i < 12 then some (r_8 i) else none))))))] : va_W) ++ (((List.range 12).map (fun i => ((r_8 i, .inl (cy 0, 40, .inl (fun _ => 0))) : Nat × va_E))) ++ (((List.range 12).map (fun i => ((r_6 i, .inl (cy 0, 40, .inl (fun _ => 0))) : Nat × va_E))) ++ (((List.range 12).map (fun i => ((r_4 i, .inl (cy 0, 40, .inl (fun _ => 0))) : Nat × va_E))) ++ ((List.range 12).map (fun i => ((r_2 i, .inl (cy 0, 40, .inl (fun _ => 0))) : Nat × va_E))))))) := hD
  refine lv_aload_n hx hb dX6_init_52 rfl (lv_at hl 0 rfl) ?_
  refine lv_bipush (v := 12) hx hb dX6_init_53 (by decide) ?_
  refine lv_bipush (v := 40) hx hb dX6_init_55 (by decide) ?_
  refine vz_mna (t0 := 6) (t1 := 0) (N' := 12) (K' := 40) (z := (40, .inl (fun _ => 0))) (ty := .int) hx hb hown (hts (.classLink RX6 9 "[[I") (List.mem_of_getElem? (i := 4) rfl)) hN.2.2.2.1 (hts (.arrayClass .int) (List.mem_of_getElem? (i := 5) rfl)) rfl (hK.2 0 _ rfl).2 hK hP hD hS hA (by decide) (by decide) rfl rfl (by decide) (by decide) (by decide) rfl rfl (Nat.le_of_ble_eq_true rfl) (Nat.le_of_ble_eq_true rfl) (fun _ => rfl) dX6_init_57 (fun q_9 r_10 H hP hD hS => ?_)
  have hP := wz_P hP
  have hD := wz_D hD
  have hP : va_P (dC, dI) vwCl (([(h0, .inr (6, [.ref q_1, .ref q_3, .ref q_5, .ref q_7, .null, .null, .null, .null, .int 0, .null, .null, .null])), (q_1, .inl (cy 6, 12, .inr (.inr (.inr (.inr (fun i => if i < 12 then some (r_2 i) else none)))))), (q_3, .inl (cy 6, 12, .inr (.inr (.inr (.inr (fun i => if i < 12 then some (r_4 i) else none)))))), (q_5, .inl (cy 6, 12, .inr (.inr (.inr (.inr (fun i => if i < 12 then some (r_6 i) else none)))))), (q_7, .inl (cy 6, 12, .inr (.inr (.inr (.inr (fun i => if i < 12 then some (r_8 i) else none)))))), (q_9, .inl (cy 6, 12, .inr (.inr (.inr (.inr (fun i => if i < 12 then some (r_10 i) else none))))))] : va_W) ++ (((List.range 12).map (fun i => ((r_10 i, .inl (cy 0, 40, .inl (fun _ => 0))) : Nat × va_E))) ++ (((List.range 12).map (fun i => ((r_8 i, .inl (cy 0, 40, .inl (fun _ => 0))) : Nat × va_E))) ++ (((List.range 12).map (fun i => ((r_6 i, .inl (cy 0, 40, .inl (fun _ => 0))) : Nat × va_E))) ++ (((List.range 12).map (fun i => ((r_4 i, .inl (cy 0, 40, .inl (fun _ => 0))) : Nat × va_E))) ++ ((List.range 12).map (fun i => ((r_2 i, .inl (cy 0, 40, .inl (fun _ => 0))) : Nat × va_E)))))))) H := hP
  have hD : va_D A (([(h0, .inr (6, [.ref q_1, .ref q_3, .ref q_5, .ref q_7, .null, .null, .null, .null, .int 0, .null, .null, .null])), (q_1, .inl (cy 6, 12, .inr (.inr (.inr (.inr (fun i => if i < 12 then some (r_2 i) else none)))))), (q_3, .inl (cy 6, 12, .inr (.inr (.inr (.inr (fun i => if i < 12 then some (r_4 i) else none)))))), (q_5, .inl (cy 6, 12, .inr (.inr (.inr (.inr (fun i => if i < 12 then some (r_6 i) else none)))))), (q_7, .inl (cy 6, 12, .inr (.inr (.inr (.inr (fun i => if i < 12 then some (r_8 i) else none)))))), (q_9, .inl (cy 6, 12, .inr (.inr (.inr (.inr (fun i => if i < 12 then some (r_10 i) else none))))))] : va_W) ++ (((List.range 12).map (fun i => ((r_10 i, .inl (cy 0, 40, .inl (fun _ => 0))) : Nat × va_E))) ++ (((List.range 12).map (fun i => ((r_8 i, .inl (cy 0, 40, .inl (fun _ => 0))) : Nat × va_E))) ++ (((List.range 12).map (fun i => ((r_6 i, .inl (cy 0, 40, .inl (fun _ => 0))) : Nat × va_E))) ++ (((List.range 12).map (fun i => ((r_4 i, .inl (cy 0, 40, .inl (fun _ => 0))) : Nat × va_E))) ++ ((List.range 12).map (fun i => ((r_2 i, .inl (cy 0, 40, .inl (fun _ => 0))) : Nat × va_E)))))))) := hD
  refine W.widen (k := 65) (n := 2460) (Nat.le_of_ble_eq_true rfl) (Nat.le_of_ble_eq_true rfl) ?_
  refine va_putF (D := (dC, dI)) (ci := 6) (v := .ref q_9) (C := RX6) (T := TX6) (N := 12) hx hb hts (fun _ h9 => List.mem_cons_of_mem _ (List.mem_append_right _ h9)) tyX6 tyX6_ok nmX6 hown hK hP hD hS 0 rfl rfl 4 (by decide) (hts (.fieldLink RX6 25 "SeatsRound$Parcels" "pieceTo" "[[I") (List.mem_of_getElem? (i := 10) rfl)) (fun _ h9 => h9) rfl hin rfl (tyX6_ok 4 (by decide)) rfl rfl (Nat.le_of_ble_eq_true rfl) dX6_init_61 (fun H locs hP hD hS => ?_)
  have hP : va_P (dC, dI) vwCl (([(h0, .inr (6, [.ref q_1, .ref q_3, .ref q_5, .ref q_7, .ref q_9, .null, .null, .null, .int 0, .null, .null, .null])), (q_1, .inl (cy 6, 12, .inr (.inr (.inr (.inr (fun i => if i < 12 then some (r_2 i) else none)))))), (q_3, .inl (cy 6, 12, .inr (.inr (.inr (.inr (fun i => if i < 12 then some (r_4 i) else none)))))), (q_5, .inl (cy 6, 12, .inr (.inr (.inr (.inr (fun i => if i < 12 then some (r_6 i) else none)))))), (q_7, .inl (cy 6, 12, .inr (.inr (.inr (.inr (fun i => if i < 12 then some (r_8 i) else none)))))), (q_9, .inl (cy 6, 12, .inr (.inr (.inr (.inr (fun i => if i < 12 then some (r_10 i) else none))))))] : va_W) ++ (((List.range 12).map (fun i => ((r_10 i, .inl (cy 0, 40, .inl (fun _ => 0))) : Nat × va_E))) ++ (((List.range 12).map (fun i => ((r_8 i, .inl (cy 0, 40, .inl (fun _ => 0))) : Nat × va_E))) ++ (((List.range 12).map (fun i => ((r_6 i, .inl (cy 0, 40, .inl (fun _ => 0))) : Nat × va_E))) ++ (((List.range 12).map (fun i => ((r_4 i, .inl (cy 0, 40, .inl (fun _ => 0))) : Nat × va_E))) ++ ((List.range 12).map (fun i => ((r_2 i, .inl (cy 0, 40, .inl (fun _ => 0))) : Nat × va_E)))))))) H := hP
  have hD : va_D A (([(h0, .inr (6, [.ref q_1, .ref q_3, .ref q_5, .ref q_7, .ref q_9, .null, .null, .null, .int 0, .null, .null, .null])), (q_1, .inl (cy 6, 12, .inr (.inr (.inr (.inr (fun i => if i < 12 then some (r_2 i) else none)))))), (q_3, .inl (cy 6, 12, .inr (.inr (.inr (.inr (fun i => if i < 12 then some (r_4 i) else none)))))), (q_5, .inl (cy 6, 12, .inr (.inr (.inr (.inr (fun i => if i < 12 then some (r_6 i) else none)))))), (q_7, .inl (cy 6, 12, .inr (.inr (.inr (.inr (fun i => if i < 12 then some (r_8 i) else none)))))), (q_9, .inl (cy 6, 12, .inr (.inr (.inr (.inr (fun i => if i < 12 then some (r_10 i) else none))))))] : va_W) ++ (((List.range 12).map (fun i => ((r_10 i, .inl (cy 0, 40, .inl (fun _ => 0))) : Nat × va_E))) ++ (((List.range 12).map (fun i => ((r_8 i, .inl (cy 0, 40, .inl (fun _ => 0))) : Nat × va_E))) ++ (((List.range 12).map (fun i => ((r_6 i, .inl (cy 0, 40, .inl (fun _ => 0))) : Nat × va_E))) ++ (((List.range 12).map (fun i => ((r_4 i, .inl (cy 0, 40, .inl (fun _ => 0))) : Nat × va_E))) ++ ((List.range 12).map (fun i => ((r_2 i, .inl (cy 0, 40, .inl (fun _ => 0))) : Nat × va_E)))))))) := hD
  change W _ _ _ _ _ _ _ _ _ _ _ _ _ _ _ (F0 m 64 ls [])
  refine lv_aload_n hx hb dX6_init_64 rfl (lv_at hl 0 rfl) ?_
  refine lv_bipush (v := 40) hx hb dX6_init_65 (by decide) ?_
  refine vz_newa (atype := .int) (ty := .int) (t0 := 0) (N' := 40) (a0 := (40, .inl (fun _ => 0))) hx hb (hts (.arrayClass .int) (List.mem_of_getElem? (i := 5) rfl)) rfl rfl hK hP hD hS hA (fun _ => rfl) (by decide) rfl (by decide) (Nat.le_of_ble_eq_true rfl) (Nat.le_of_ble_eq_true rfl) dX6_init_67 (fun q_11 H hP hD hS => ?_)
  have hP := va_P.swap hP
  have hD := va_D.swap hD
  have hP : va_P (dC, dI) vwCl (([(h0, .inr (6, [.ref q_1, .ref q_3, .ref q_5, .ref q_7, .ref q_9, .null, .null, .null, .int 0, .null, .null, .null])), (q_1, .inl (cy 6, 12, .inr (.inr (.inr (.inr (fun i => if i < 12 then some (r_2 i) else none)))))), (q_3, .inl (cy 6, 12, .inr (.inr (.inr (.inr (fun i => if i < 12 then some (r_4 i) else none)))))), (q_5, .inl (cy 6, 12, .inr (.inr (.inr (.inr (fun i => if i < 12 then some (r_6 i) else none)))))), (q_7, .inl (cy 6, 12, .inr (.inr (.inr (.inr (fun i => if i < 12 then some (r_8 i) else none)))))), (q_9, .inl (cy 6, 12, .inr (.inr (.inr (.inr (fun i => if i < 12 then some (r_10 i) else none)))))), (q_11, .inl (cy 0, 40, .inl (fun _ => 0)))] : va_W) ++ (((List.range 12).map (fun i => ((r_10 i, .inl (cy 0, 40, .inl (fun _ => 0))) : Nat × va_E))) ++ (((List.range 12).map (fun i => ((r_8 i, .inl (cy 0, 40, .inl (fun _ => 0))) : Nat × va_E))) ++ (((List.range 12).map (fun i => ((r_6 i, .inl (cy 0, 40, .inl (fun _ => 0))) : Nat × va_E))) ++ (((List.range 12).map (fun i => ((r_4 i, .inl (cy 0, 40, .inl (fun _ => 0))) : Nat × va_E))) ++ ((List.range 12).map (fun i => ((r_2 i, .inl (cy 0, 40, .inl (fun _ => 0))) : Nat × va_E)))))))) H := hP
  have hD : va_D A (([(h0, .inr (6, [.ref q_1, .ref q_3, .ref q_5, .ref q_7, .ref q_9, .null, .null, .null, .int 0, .null, .null, .null])), (q_1, .inl (cy 6, 12, .inr (.inr (.inr (.inr (fun i => if i < 12 then some (r_2 i) else none)))))), (q_3, .inl (cy 6, 12, .inr (.inr (.inr (.inr (fun i => if i < 12 then some (r_4 i) else none)))))), (q_5, .inl (cy 6, 12, .inr (.inr (.inr (.inr (fun i => if i < 12 then some (r_6 i) else none)))))), (q_7, .inl (cy 6, 12, .inr (.inr (.inr (.inr (fun i => if i < 12 then some (r_8 i) else none)))))), (q_9, .inl (cy 6, 12, .inr (.inr (.inr (.inr (fun i => if i < 12 then some (r_10 i) else none)))))), (q_11, .inl (cy 0, 40, .inl (fun _ => 0)))] : va_W) ++ (((List.range 12).map (fun i => ((r_10 i, .inl (cy 0, 40, .inl (fun _ => 0))) : Nat × va_E))) ++ (((List.range 12).map (fun i => ((r_8 i, .inl (cy 0, 40, .inl (fun _ => 0))) : Nat × va_E))) ++ (((List.range 12).map (fun i => ((r_6 i, .inl (cy 0, 40, .inl (fun _ => 0))) : Nat × va_E))) ++ (((List.range 12).map (fun i => ((r_4 i, .inl (cy 0, 40, .inl (fun _ => 0))) : Nat × va_E))) ++ ((List.range 12).map (fun i => ((r_2 i, .inl (cy 0, 40, .inl (fun _ => 0))) : Nat × va_E)))))))) := hD
  refine W.widen (k := 66) (n := 2500) (Nat.le_of_ble_eq_true rfl) (Nat.le_of_ble_eq_true rfl) ?_
  refine va_putF (D := (dC, dI)) (ci := 6) (v := .ref q_11) (C := RX6) (T := TX6) (N := 12) hx hb hts (fun _ h9 => List.mem_cons_of_mem _ (List.mem_append_right _ h9)) tyX6 tyX6_ok nmX6 hown hK hP hD hS 0 rfl rfl 5 (by decide) (hts (.fieldLink RX6 28 "SeatsRound$Parcels" "latest" "[I") (List.mem_of_getElem? (i := 11) rfl)) (fun _ h9 => h9) rfl hin rfl (tyX6_ok 5 (by decide)) rfl rfl (Nat.le_of_ble_eq_true rfl) dX6_init_69 (fun H locs hP hD hS => ?_)
  have hP : va_P (dC, dI) vwCl (([(h0, .inr (6, [.ref q_1, .ref q_3, .ref q_5, .ref q_7, .ref q_9, .ref q_11, .null, .null, .int 0, .null, .null, .null])), (q_1, .inl (cy 6, 12, .inr (.inr (.inr (.inr (fun i => if i < 12 then some (r_2 i) else none)))))), (q_3, .inl (cy 6, 12, .inr (.inr (.inr (.inr (fun i => if i < 12 then some (r_4 i) else none)))))), (q_5, .inl (cy 6, 12, .inr (.inr (.inr (.inr (fun i => if i < 12 then some (r_6 i) else none)))))), (q_7, .inl (cy 6, 12, .inr (.inr (.inr (.inr (fun i => if i < 12 then some (r_8 i) else none)))))), (q_9, .inl (cy 6, 12, .inr (.inr (.inr (.inr (fun i => if i < 12 then some (r_10 i) else none)))))), (q_11, .inl (cy 0, 40, .inl (fun _ => 0)))] : va_W) ++ (((List.range 12).map (fun i => ((r_10 i, .inl (cy 0, 40, .inl (fun _ => 0))) : Nat × va_E))) ++ (((List.range 12).map (fun i => ((r_8 i, .inl (cy 0, 40, .inl (fun _ => 0))) : Nat × va_E))) ++ (((List.range 12).map (fun i => ((r_6 i, .inl (cy 0, 40, .inl (fun _ => 0))) : Nat × va_E))) ++ (((List.range 12).map (fun i => ((r_4 i, .inl (cy 0, 40, .inl (fun _ => 0))) : Nat × va_E))) ++ ((List.range 12).map (fun i => ((r_2 i, .inl (cy 0, 40, .inl (fun _ => 0))) : Nat × va_E)))))))) H := hP
  have hD : va_D A (([(h0, .inr (6, [.ref q_1, .ref q_3, .ref q_5, .ref q_7, .ref q_9, .ref q_11, .null, .null, .int 0, .null, .null, .null])), (q_1, .inl (cy 6, 12, .inr (.inr (.inr (.inr (fun i => if i < 12 then some (r_2 i) else none)))))), (q_3, .inl (cy 6, 12, .inr (.inr (.inr (.inr (fun i => if i < 12 then some (r_4 i) else none)))))), (q_5, .inl (cy 6, 12, .inr (.inr (.inr (.inr (fun i => if i < 12 then some (r_6 i) else none)))))), (q_7, .inl (cy 6, 12, .inr (.inr (.inr (.inr (fun i => if i < 12 then some (r_8 i) else none)))))), (q_9, .inl (cy 6, 12, .inr (.inr (.inr (.inr (fun i => if i < 12 then some (r_10 i) else none)))))), (q_11, .inl (cy 0, 40, .inl (fun _ => 0)))] : va_W) ++ (((List.range 12).map (fun i => ((r_10 i, .inl (cy 0, 40, .inl (fun _ => 0))) : Nat × va_E))) ++ (((List.range 12).map (fun i => ((r_8 i, .inl (cy 0, 40, .inl (fun _ => 0))) : Nat × va_E))) ++ (((List.range 12).map (fun i => ((r_6 i, .inl (cy 0, 40, .inl (fun _ => 0))) : Nat × va_E))) ++ (((List.range 12).map (fun i => ((r_4 i, .inl (cy 0, 40, .inl (fun _ => 0))) : Nat × va_E))) ++ ((List.range 12).map (fun i => ((r_2 i, .inl (cy 0, 40, .inl (fun _ => 0))) : Nat × va_E)))))))) := hD
  refine lv_aload_n hx hb dX6_init_72 rfl (lv_at hl 0 rfl) ?_
  refine lv_bipush (v := 16) hx hb dX6_init_73 (by decide) ?_
  refine vz_newa (atype := .int) (ty := .int) (t0 := 0) (N' := 16) (a0 := (16, .inl (fun _ => 0))) hx hb (hts (.arrayClass .int) (List.mem_of_getElem? (i := 5) rfl)) rfl rfl hK hP hD hS hA (fun _ => rfl) (by decide) rfl (by decide) (Nat.le_of_ble_eq_true rfl) (Nat.le_of_ble_eq_true rfl) dX6_init_75 (fun q_12 H hP hD hS => ?_)
  have hP := va_P.swap hP
  have hD := va_D.swap hD
  have hP : va_P (dC, dI) vwCl (([(h0, .inr (6, [.ref q_1, .ref q_3, .ref q_5, .ref q_7, .ref q_9, .ref q_11, .null, .null, .int 0, .null, .null, .null])), (q_1, .inl (cy 6, 12, .inr (.inr (.inr (.inr (fun i => if i < 12 then some (r_2 i) else none)))))), (q_3, .inl (cy 6, 12, .inr (.inr (.inr (.inr (fun i => if i < 12 then some (r_4 i) else none)))))), (q_5, .inl (cy 6, 12, .inr (.inr (.inr (.inr (fun i => if i < 12 then some (r_6 i) else none)))))), (q_7, .inl (cy 6, 12, .inr (.inr (.inr (.inr (fun i => if i < 12 then some (r_8 i) else none)))))), (q_9, .inl (cy 6, 12, .inr (.inr (.inr (.inr (fun i => if i < 12 then some (r_10 i) else none)))))), (q_11, .inl (cy 0, 40, .inl (fun _ => 0))), (q_12, .inl (cy 0, 16, .inl (fun _ => 0)))] : va_W) ++ (((List.range 12).map (fun i => ((r_10 i, .inl (cy 0, 40, .inl (fun _ => 0))) : Nat × va_E))) ++ (((List.range 12).map (fun i => ((r_8 i, .inl (cy 0, 40, .inl (fun _ => 0))) : Nat × va_E))) ++ (((List.range 12).map (fun i => ((r_6 i, .inl (cy 0, 40, .inl (fun _ => 0))) : Nat × va_E))) ++ (((List.range 12).map (fun i => ((r_4 i, .inl (cy 0, 40, .inl (fun _ => 0))) : Nat × va_E))) ++ ((List.range 12).map (fun i => ((r_2 i, .inl (cy 0, 40, .inl (fun _ => 0))) : Nat × va_E)))))))) H := hP
  have hD : va_D A (([(h0, .inr (6, [.ref q_1, .ref q_3, .ref q_5, .ref q_7, .ref q_9, .ref q_11, .null, .null, .int 0, .null, .null, .null])), (q_1, .inl (cy 6, 12, .inr (.inr (.inr (.inr (fun i => if i < 12 then some (r_2 i) else none)))))), (q_3, .inl (cy 6, 12, .inr (.inr (.inr (.inr (fun i => if i < 12 then some (r_4 i) else none)))))), (q_5, .inl (cy 6, 12, .inr (.inr (.inr (.inr (fun i => if i < 12 then some (r_6 i) else none)))))), (q_7, .inl (cy 6, 12, .inr (.inr (.inr (.inr (fun i => if i < 12 then some (r_8 i) else none)))))), (q_9, .inl (cy 6, 12, .inr (.inr (.inr (.inr (fun i => if i < 12 then some (r_10 i) else none)))))), (q_11, .inl (cy 0, 40, .inl (fun _ => 0))), (q_12, .inl (cy 0, 16, .inl (fun _ => 0)))] : va_W) ++ (((List.range 12).map (fun i => ((r_10 i, .inl (cy 0, 40, .inl (fun _ => 0))) : Nat × va_E))) ++ (((List.range 12).map (fun i => ((r_8 i, .inl (cy 0, 40, .inl (fun _ => 0))) : Nat × va_E))) ++ (((List.range 12).map (fun i => ((r_6 i, .inl (cy 0, 40, .inl (fun _ => 0))) : Nat × va_E))) ++ (((List.range 12).map (fun i => ((r_4 i, .inl (cy 0, 40, .inl (fun _ => 0))) : Nat × va_E))) ++ ((List.range 12).map (fun i => ((r_2 i, .inl (cy 0, 40, .inl (fun _ => 0))) : Nat × va_E)))))))) := hD
  refine W.widen (k := 67) (n := 2516) (Nat.le_of_ble_eq_true rfl) (Nat.le_of_ble_eq_true rfl) ?_
  refine va_putF (D := (dC, dI)) (ci := 6) (v := .ref q_12) (C := RX6) (T := TX6) (N := 12) hx hb hts (fun _ h9 => List.mem_cons_of_mem _ (List.mem_append_right _ h9)) tyX6 tyX6_ok nmX6 hown hK hP hD hS 0 rfl rfl 6 (by decide) (hts (.fieldLink RX6 32 "SeatsRound$Parcels" "oneTree" "[I") (List.mem_of_getElem? (i := 12) rfl)) (fun _ h9 => h9) rfl hin rfl (tyX6_ok 6 (by decide)) rfl rfl (Nat.le_of_ble_eq_true rfl) dX6_init_77 (fun H locs hP hD hS => ?_)
  have hP : va_P (dC, dI) vwCl (([(h0, .inr (6, [.ref q_1, .ref q_3, .ref q_5, .ref q_7, .ref q_9, .ref q_11, .ref q_12, .null, .int 0, .null, .null, .null])), (q_1, .inl (cy 6, 12, .inr (.inr (.inr (.inr (fun i => if i < 12 then some (r_2 i) else none)))))), (q_3, .inl (cy 6, 12, .inr (.inr (.inr (.inr (fun i => if i < 12 then some (r_4 i) else none)))))), (q_5, .inl (cy 6, 12, .inr (.inr (.inr (.inr (fun i => if i < 12 then some (r_6 i) else none)))))), (q_7, .inl (cy 6, 12, .inr (.inr (.inr (.inr (fun i => if i < 12 then some (r_8 i) else none)))))), (q_9, .inl (cy 6, 12, .inr (.inr (.inr (.inr (fun i => if i < 12 then some (r_10 i) else none)))))), (q_11, .inl (cy 0, 40, .inl (fun _ => 0))), (q_12, .inl (cy 0, 16, .inl (fun _ => 0)))] : va_W) ++ (((List.range 12).map (fun i => ((r_10 i, .inl (cy 0, 40, .inl (fun _ => 0))) : Nat × va_E))) ++ (((List.range 12).map (fun i => ((r_8 i, .inl (cy 0, 40, .inl (fun _ => 0))) : Nat × va_E))) ++ (((List.range 12).map (fun i => ((r_6 i, .inl (cy 0, 40, .inl (fun _ => 0))) : Nat × va_E))) ++ (((List.range 12).map (fun i => ((r_4 i, .inl (cy 0, 40, .inl (fun _ => 0))) : Nat × va_E))) ++ ((List.range 12).map (fun i => ((r_2 i, .inl (cy 0, 40, .inl (fun _ => 0))) : Nat × va_E)))))))) H := hP
  have hD : va_D A (([(h0, .inr (6, [.ref q_1, .ref q_3, .ref q_5, .ref q_7, .ref q_9, .ref q_11, .ref q_12, .null, .int 0, .null, .null, .null])), (q_1, .inl (cy 6, 12, .inr (.inr (.inr (.inr (fun i => if i < 12 then some (r_2 i) else none)))))), (q_3, .inl (cy 6, 12, .inr (.inr (.inr (.inr (fun i => if i < 12 then some (r_4 i) else none)))))), (q_5, .inl (cy 6, 12, .inr (.inr (.inr (.inr (fun i => if i < 12 then some (r_6 i) else none)))))), (q_7, .inl (cy 6, 12, .inr (.inr (.inr (.inr (fun i => if i < 12 then some (r_8 i) else none)))))), (q_9, .inl (cy 6, 12, .inr (.inr (.inr (.inr (fun i => if i < 12 then some (r_10 i) else none)))))), (q_11, .inl (cy 0, 40, .inl (fun _ => 0))), (q_12, .inl (cy 0, 16, .inl (fun _ => 0)))] : va_W) ++ (((List.range 12).map (fun i => ((r_10 i, .inl (cy 0, 40, .inl (fun _ => 0))) : Nat × va_E))) ++ (((List.range 12).map (fun i => ((r_8 i, .inl (cy 0, 40, .inl (fun _ => 0))) : Nat × va_E))) ++ (((List.range 12).map (fun i => ((r_6 i, .inl (cy 0, 40, .inl (fun _ => 0))) : Nat × va_E))) ++ (((List.range 12).map (fun i => ((r_4 i, .inl (cy 0, 40, .inl (fun _ => 0))) : Nat × va_E))) ++ ((List.range 12).map (fun i => ((r_2 i, .inl (cy 0, 40, .inl (fun _ => 0))) : Nat × va_E)))))))) := hD
  change W _ _ _ _ _ _ _ _ _ _ _ _ _ _ _ (F0 m 80 ls [])
  refine lv_aload_n hx hb dX6_init_80 rfl (lv_at hl 0 rfl) ?_
  refine lv_bipush (v := 16) hx hb dX6_init_81 (by decide) ?_
  refine vz_newa (atype := .int) (ty := .int) (t0 := 0) (N' := 16) (a0 := (16, .inl (fun _ => 0))) hx hb (hts (.arrayClass .int) (List.mem_of_getElem? (i := 5) rfl)) rfl rfl hK hP hD hS hA (fun _ => rfl) (by decide) rfl (by decide) (Nat.le_of_ble_eq_true rfl) (Nat.le_of_ble_eq_true rfl) dX6_init_83 (fun q_13 H hP hD hS => ?_)
  have hP := va_P.swap hP
  have hD := va_D.swap hD
  have hP : va_P (dC, dI) vwCl (([(h0, .inr (6, [.ref q_1, .ref q_3, .ref q_5, .ref q_7, .ref q_9, .ref q_11, .ref q_12, .null, .int 0, .null, .null, .null])), (q_1, .inl (cy 6, 12, .inr (.inr (.inr (.inr (fun i => if i < 12 then some (r_2 i) else none)))))), (q_3, .inl (cy 6, 12, .inr (.inr (.inr (.inr (fun i => if i < 12 then some (r_4 i) else none)))))), (q_5, .inl (cy 6, 12, .inr (.inr (.inr (.inr (fun i => if i < 12 then some (r_6 i) else none)))))), (q_7, .inl (cy 6, 12, .inr (.inr (.inr (.inr (fun i => if i < 12 then some (r_8 i) else none)))))), (q_9, .inl (cy 6, 12, .inr (.inr (.inr (.inr (fun i => if i < 12 then some (r_10 i) else none)))))), (q_11, .inl (cy 0, 40, .inl (fun _ => 0))), (q_12, .inl (cy 0, 16, .inl (fun _ => 0))), (q_13, .inl (cy 0, 16, .inl (fun _ => 0)))] : va_W) ++ (((List.range 12).map (fun i => ((r_10 i, .inl (cy 0, 40, .inl (fun _ => 0))) : Nat × va_E))) ++ (((List.range 12).map (fun i => ((r_8 i, .inl (cy 0, 40, .inl (fun _ => 0))) : Nat × va_E))) ++ (((List.range 12).map (fun i => ((r_6 i, .inl (cy 0, 40, .inl (fun _ => 0))) : Nat × va_E))) ++ (((List.range 12).map (fun i => ((r_4 i, .inl (cy 0, 40, .inl (fun _ => 0))) : Nat × va_E))) ++ ((List.range 12).map (fun i => ((r_2 i, .inl (cy 0, 40, .inl (fun _ => 0))) : Nat × va_E)))))))) H := hP
  have hD : va_D A (([(h0, .inr (6, [.ref q_1, .ref q_3, .ref q_5, .ref q_7, .ref q_9, .ref q_11, .ref q_12, .null, .int 0, .null, .null, .null])), (q_1, .inl (cy 6, 12, .inr (.inr (.inr (.inr (fun i => if i < 12 then some (r_2 i) else none)))))), (q_3, .inl (cy 6, 12, .inr (.inr (.inr (.inr (fun i => if i < 12 then some (r_4 i) else none)))))), (q_5, .inl (cy 6, 12, .inr (.inr (.inr (.inr (fun i => if i < 12 then some (r_6 i) else none)))))), (q_7, .inl (cy 6, 12, .inr (.inr (.inr (.inr (fun i => if i < 12 then some (r_8 i) else none)))))), (q_9, .inl (cy 6, 12, .inr (.inr (.inr (.inr (fun i => if i < 12 then some (r_10 i) else none)))))), (q_11, .inl (cy 0, 40, .inl (fun _ => 0))), (q_12, .inl (cy 0, 16, .inl (fun _ => 0))), (q_13, .inl (cy 0, 16, .inl (fun _ => 0)))] : va_W) ++ (((List.range 12).map (fun i => ((r_10 i, .inl (cy 0, 40, .inl (fun _ => 0))) : Nat × va_E))) ++ (((List.range 12).map (fun i => ((r_8 i, .inl (cy 0, 40, .inl (fun _ => 0))) : Nat × va_E))) ++ (((List.range 12).map (fun i => ((r_6 i, .inl (cy 0, 40, .inl (fun _ => 0))) : Nat × va_E))) ++ (((List.range 12).map (fun i => ((r_4 i, .inl (cy 0, 40, .inl (fun _ => 0))) : Nat × va_E))) ++ ((List.range 12).map (fun i => ((r_2 i, .inl (cy 0, 40, .inl (fun _ => 0))) : Nat × va_E)))))))) := hD
  refine W.widen (k := 68) (n := 2532) (Nat.le_of_ble_eq_true rfl) (Nat.le_of_ble_eq_true rfl) ?_
  refine va_putF (D := (dC, dI)) (ci := 6) (v := .ref q_13) (C := RX6) (T := TX6) (N := 12) hx hb hts (fun _ h9 => List.mem_cons_of_mem _ (List.mem_append_right _ h9)) tyX6 tyX6_ok nmX6 hown hK hP hD hS 0 rfl rfl 7 (by decide) (hts (.fieldLink RX6 35 "SeatsRound$Parcels" "otherTree" "[I") (List.mem_of_getElem? (i := 13) rfl)) (fun _ h9 => h9) rfl hin rfl (tyX6_ok 7 (by decide)) rfl rfl (Nat.le_of_ble_eq_true rfl) dX6_init_85 (fun H locs hP hD hS => ?_)
  have hP : va_P (dC, dI) vwCl (([(h0, .inr (6, [.ref q_1, .ref q_3, .ref q_5, .ref q_7, .ref q_9, .ref q_11, .ref q_12, .ref q_13, .int 0, .null, .null, .null])), (q_1, .inl (cy 6, 12, .inr (.inr (.inr (.inr (fun i => if i < 12 then some (r_2 i) else none)))))), (q_3, .inl (cy 6, 12, .inr (.inr (.inr (.inr (fun i => if i < 12 then some (r_4 i) else none)))))), (q_5, .inl (cy 6, 12, .inr (.inr (.inr (.inr (fun i => if i < 12 then some (r_6 i) else none)))))), (q_7, .inl (cy 6, 12, .inr (.inr (.inr (.inr (fun i => if i < 12 then some (r_8 i) else none)))))), (q_9, .inl (cy 6, 12, .inr (.inr (.inr (.inr (fun i => if i < 12 then some (r_10 i) else none)))))), (q_11, .inl (cy 0, 40, .inl (fun _ => 0))), (q_12, .inl (cy 0, 16, .inl (fun _ => 0))), (q_13, .inl (cy 0, 16, .inl (fun _ => 0)))] : va_W) ++ (((List.range 12).map (fun i => ((r_10 i, .inl (cy 0, 40, .inl (fun _ => 0))) : Nat × va_E))) ++ (((List.range 12).map (fun i => ((r_8 i, .inl (cy 0, 40, .inl (fun _ => 0))) : Nat × va_E))) ++ (((List.range 12).map (fun i => ((r_6 i, .inl (cy 0, 40, .inl (fun _ => 0))) : Nat × va_E))) ++ (((List.range 12).map (fun i => ((r_4 i, .inl (cy 0, 40, .inl (fun _ => 0))) : Nat × va_E))) ++ ((List.range 12).map (fun i => ((r_2 i, .inl (cy 0, 40, .inl (fun _ => 0))) : Nat × va_E)))))))) H := hP
  have hD : va_D A (([(h0, .inr (6, [.ref q_1, .ref q_3, .ref q_5, .ref q_7, .ref q_9, .ref q_11, .ref q_12, .ref q_13, .int 0, .null, .null, .null])), (q_1, .inl (cy 6, 12, .inr (.inr (.inr (.inr (fun i => if i < 12 then some (r_2 i) else none)))))), (q_3, .inl (cy 6, 12, .inr (.inr (.inr (.inr (fun i => if i < 12 then some (r_4 i) else none)))))), (q_5, .inl (cy 6, 12, .inr (.inr (.inr (.inr (fun i => if i < 12 then some (r_6 i) else none)))))), (q_7, .inl (cy 6, 12, .inr (.inr (.inr (.inr (fun i => if i < 12 then some (r_8 i) else none)))))), (q_9, .inl (cy 6, 12, .inr (.inr (.inr (.inr (fun i => if i < 12 then some (r_10 i) else none)))))), (q_11, .inl (cy 0, 40, .inl (fun _ => 0))), (q_12, .inl (cy 0, 16, .inl (fun _ => 0))), (q_13, .inl (cy 0, 16, .inl (fun _ => 0)))] : va_W) ++ (((List.range 12).map (fun i => ((r_10 i, .inl (cy 0, 40, .inl (fun _ => 0))) : Nat × va_E))) ++ (((List.range 12).map (fun i => ((r_8 i, .inl (cy 0, 40, .inl (fun _ => 0))) : Nat × va_E))) ++ (((List.range 12).map (fun i => ((r_6 i, .inl (cy 0, 40, .inl (fun _ => 0))) : Nat × va_E))) ++ (((List.range 12).map (fun i => ((r_4 i, .inl (cy 0, 40, .inl (fun _ => 0))) : Nat × va_E))) ++ ((List.range 12).map (fun i => ((r_2 i, .inl (cy 0, 40, .inl (fun _ => 0))) : Nat × va_E)))))))) := hD
  refine lv_aload_n hx hb dX6_init_88 rfl (lv_at hl 0 rfl) ?_
  refine lv_iconst (v := 0) hx hb dX6_init_89 (by decide) ?_
  refine va_put (D := (dC, dI)) (ci := 6) (v := .int 0) (C := RX6) (T := TX6) (N := 12) hx hb hts (fun _ h9 => List.mem_cons_of_mem _ (List.mem_append_right _ h9)) tyX6 tyX6_ok nmX6 hown hK hP hD hS 0 rfl rfl 8 (by decide) (hts (.fieldLink RX6 38 "SeatsRound$Parcels" "writings" "I") (List.mem_of_getElem? (i := 14) rfl)) (fun _ h9 => h9) rfl (tyX6_ok 8 (by decide)) rfl rfl (Nat.le_of_ble_eq_true rfl) dX6_init_90 (fun H locs hP hD hS => ?_)
  have hP : va_P (dC, dI) vwCl (([(h0, .inr (6, [.ref q_1, .ref q_3, .ref q_5, .ref q_7, .ref q_9, .ref q_11, .ref q_12, .ref q_13, .int 0, .null, .null, .null])), (q_1, .inl (cy 6, 12, .inr (.inr (.inr (.inr (fun i => if i < 12 then some (r_2 i) else none)))))), (q_3, .inl (cy 6, 12, .inr (.inr (.inr (.inr (fun i => if i < 12 then some (r_4 i) else none)))))), (q_5, .inl (cy 6, 12, .inr (.inr (.inr (.inr (fun i => if i < 12 then some (r_6 i) else none)))))), (q_7, .inl (cy 6, 12, .inr (.inr (.inr (.inr (fun i => if i < 12 then some (r_8 i) else none)))))), (q_9, .inl (cy 6, 12, .inr (.inr (.inr (.inr (fun i => if i < 12 then some (r_10 i) else none)))))), (q_11, .inl (cy 0, 40, .inl (fun _ => 0))), (q_12, .inl (cy 0, 16, .inl (fun _ => 0))), (q_13, .inl (cy 0, 16, .inl (fun _ => 0)))] : va_W) ++ (((List.range 12).map (fun i => ((r_10 i, .inl (cy 0, 40, .inl (fun _ => 0))) : Nat × va_E))) ++ (((List.range 12).map (fun i => ((r_8 i, .inl (cy 0, 40, .inl (fun _ => 0))) : Nat × va_E))) ++ (((List.range 12).map (fun i => ((r_6 i, .inl (cy 0, 40, .inl (fun _ => 0))) : Nat × va_E))) ++ (((List.range 12).map (fun i => ((r_4 i, .inl (cy 0, 40, .inl (fun _ => 0))) : Nat × va_E))) ++ ((List.range 12).map (fun i => ((r_2 i, .inl (cy 0, 40, .inl (fun _ => 0))) : Nat × va_E)))))))) H := hP
  have hD : va_D A (([(h0, .inr (6, [.ref q_1, .ref q_3, .ref q_5, .ref q_7, .ref q_9, .ref q_11, .ref q_12, .ref q_13, .int 0, .null, .null, .null])), (q_1, .inl (cy 6, 12, .inr (.inr (.inr (.inr (fun i => if i < 12 then some (r_2 i) else none)))))), (q_3, .inl (cy 6, 12, .inr (.inr (.inr (.inr (fun i => if i < 12 then some (r_4 i) else none)))))), (q_5, .inl (cy 6, 12, .inr (.inr (.inr (.inr (fun i => if i < 12 then some (r_6 i) else none)))))), (q_7, .inl (cy 6, 12, .inr (.inr (.inr (.inr (fun i => if i < 12 then some (r_8 i) else none)))))), (q_9, .inl (cy 6, 12, .inr (.inr (.inr (.inr (fun i => if i < 12 then some (r_10 i) else none)))))), (q_11, .inl (cy 0, 40, .inl (fun _ => 0))), (q_12, .inl (cy 0, 16, .inl (fun _ => 0))), (q_13, .inl (cy 0, 16, .inl (fun _ => 0)))] : va_W) ++ (((List.range 12).map (fun i => ((r_10 i, .inl (cy 0, 40, .inl (fun _ => 0))) : Nat × va_E))) ++ (((List.range 12).map (fun i => ((r_8 i, .inl (cy 0, 40, .inl (fun _ => 0))) : Nat × va_E))) ++ (((List.range 12).map (fun i => ((r_6 i, .inl (cy 0, 40, .inl (fun _ => 0))) : Nat × va_E))) ++ (((List.range 12).map (fun i => ((r_4 i, .inl (cy 0, 40, .inl (fun _ => 0))) : Nat × va_E))) ++ ((List.range 12).map (fun i => ((r_2 i, .inl (cy 0, 40, .inl (fun _ => 0))) : Nat × va_E)))))))) := hD
  refine lv_aload_n hx hb dX6_init_93 rfl (lv_at hl 0 rfl) ?_
  change W _ _ _ _ _ _ _ _ _ _ _ _ _ _ _ (F0 m 94 ls [.ref h0])
  refine lv_aload_n hx hb dX6_init_94 rfl (lv_at hl 1 rfl) ?_
  refine va_putF (D := (dC, dI)) (ci := 6) (v := .ref k0) (C := RX6) (T := TX6) (N := 12) hx hb hts (fun _ h9 => List.mem_cons_of_mem _ (List.mem_append_right _ h9)) tyX6 tyX6_ok nmX6 hown hK hP hD hS 0 rfl rfl 9 (by decide) (hts (.fieldLink RX6 42 "SeatsRound$Parcels" "keepers" "LSeatsRound$Keepers;") (List.mem_of_getElem? (i := 15) rfl)) (fun _ h9 => h9) rfl hin rfl (tyX6_ok 9 (by decide)) rfl rfl (Nat.le_of_ble_eq_true rfl) dX6_init_95 (fun H locs hP hD hS => ?_)
  have hP : va_P (dC, dI) vwCl (([(h0, .inr (6, [.ref q_1, .ref q_3, .ref q_5, .ref q_7, .ref q_9, .ref q_11, .ref q_12, .ref q_13, .int 0, .ref k0, .null, .null])), (q_1, .inl (cy 6, 12, .inr (.inr (.inr (.inr (fun i => if i < 12 then some (r_2 i) else none)))))), (q_3, .inl (cy 6, 12, .inr (.inr (.inr (.inr (fun i => if i < 12 then some (r_4 i) else none)))))), (q_5, .inl (cy 6, 12, .inr (.inr (.inr (.inr (fun i => if i < 12 then some (r_6 i) else none)))))), (q_7, .inl (cy 6, 12, .inr (.inr (.inr (.inr (fun i => if i < 12 then some (r_8 i) else none)))))), (q_9, .inl (cy 6, 12, .inr (.inr (.inr (.inr (fun i => if i < 12 then some (r_10 i) else none)))))), (q_11, .inl (cy 0, 40, .inl (fun _ => 0))), (q_12, .inl (cy 0, 16, .inl (fun _ => 0))), (q_13, .inl (cy 0, 16, .inl (fun _ => 0)))] : va_W) ++ (((List.range 12).map (fun i => ((r_10 i, .inl (cy 0, 40, .inl (fun _ => 0))) : Nat × va_E))) ++ (((List.range 12).map (fun i => ((r_8 i, .inl (cy 0, 40, .inl (fun _ => 0))) : Nat × va_E))) ++ (((List.range 12).map (fun i => ((r_6 i, .inl (cy 0, 40, .inl (fun _ => 0))) : Nat × va_E))) ++ (((List.range 12).map (fun i => ((r_4 i, .inl (cy 0, 40, .inl (fun _ => 0))) : Nat × va_E))) ++ ((List.range 12).map (fun i => ((r_2 i, .inl (cy 0, 40, .inl (fun _ => 0))) : Nat × va_E)))))))) H := hP
  have hD : va_D A (([(h0, .inr (6, [.ref q_1, .ref q_3, .ref q_5, .ref q_7, .ref q_9, .ref q_11, .ref q_12, .ref q_13, .int 0, .ref k0, .null, .null])), (q_1, .inl (cy 6, 12, .inr (.inr (.inr (.inr (fun i => if i < 12 then some (r_2 i) else none)))))), (q_3, .inl (cy 6, 12, .inr (.inr (.inr (.inr (fun i => if i < 12 then some (r_4 i) else none)))))), (q_5, .inl (cy 6, 12, .inr (.inr (.inr (.inr (fun i => if i < 12 then some (r_6 i) else none)))))), (q_7, .inl (cy 6, 12, .inr (.inr (.inr (.inr (fun i => if i < 12 then some (r_8 i) else none)))))), (q_9, .inl (cy 6, 12, .inr (.inr (.inr (.inr (fun i => if i < 12 then some (r_10 i) else none)))))), (q_11, .inl (cy 0, 40, .inl (fun _ => 0))), (q_12, .inl (cy 0, 16, .inl (fun _ => 0))), (q_13, .inl (cy 0, 16, .inl (fun _ => 0)))] : va_W) ++ (((List.range 12).map (fun i => ((r_10 i, .inl (cy 0, 40, .inl (fun _ => 0))) : Nat × va_E))) ++ (((List.range 12).map (fun i => ((r_8 i, .inl (cy 0, 40, .inl (fun _ => 0))) : Nat × va_E))) ++ (((List.range 12).map (fun i => ((r_6 i, .inl (cy 0, 40, .inl (fun _ => 0))) : Nat × va_E))) ++ (((List.range 12).map (fun i => ((r_4 i, .inl (cy 0, 40, .inl (fun _ => 0))) : Nat × va_E))) ++ ((List.range 12).map (fun i => ((r_2 i, .inl (cy 0, 40, .inl (fun _ => 0))) : Nat × va_E)))))))) := hD
  refine lv_aload_n hx hb dX6_init_98 rfl (lv_at hl 0 rfl) ?_
  refine lv_aload_n hx hb dX6_init_99 rfl (lv_at hl 2 rfl) ?_
  refine va_putF (D := (dC, dI)) (ci := 6) (v := .ref k1) (C := RX6) (T := TX6) (N := 12) hx hb hts (fun _ h9 => List.mem_cons_of_mem _ (List.mem_append_right _ h9)) tyX6 tyX6_ok nmX6 hown hK hP hD hS 0 rfl rfl 10 (by decide) (hts (.fieldLink RX6 46 "SeatsRound$Parcels" "nameList" "LSeatsRound$NameList;") (List.mem_of_getElem? (i := 16) rfl)) (fun _ h9 => h9) rfl hin rfl (tyX6_ok 10 (by decide)) rfl rfl (Nat.le_of_ble_eq_true rfl) dX6_init_100 (fun H locs hP hD hS => ?_)
  have hP : va_P (dC, dI) vwCl (([(h0, .inr (6, [.ref q_1, .ref q_3, .ref q_5, .ref q_7, .ref q_9, .ref q_11, .ref q_12, .ref q_13, .int 0, .ref k0, .ref k1, .null])), (q_1, .inl (cy 6, 12, .inr (.inr (.inr (.inr (fun i => if i < 12 then some (r_2 i) else none)))))), (q_3, .inl (cy 6, 12, .inr (.inr (.inr (.inr (fun i => if i < 12 then some (r_4 i) else none)))))), (q_5, .inl (cy 6, 12, .inr (.inr (.inr (.inr (fun i => if i < 12 then some (r_6 i) else none)))))), (q_7, .inl (cy 6, 12, .inr (.inr (.inr (.inr (fun i => if i < 12 then some (r_8 i) else none)))))), (q_9, .inl (cy 6, 12, .inr (.inr (.inr (.inr (fun i => if i < 12 then some (r_10 i) else none)))))), (q_11, .inl (cy 0, 40, .inl (fun _ => 0))), (q_12, .inl (cy 0, 16, .inl (fun _ => 0))), (q_13, .inl (cy 0, 16, .inl (fun _ => 0)))] : va_W) ++ (((List.range 12).map (fun i => ((r_10 i, .inl (cy 0, 40, .inl (fun _ => 0))) : Nat × va_E))) ++ (((List.range 12).map (fun i => ((r_8 i, .inl (cy 0, 40, .inl (fun _ => 0))) : Nat × va_E))) ++ (((List.range 12).map (fun i => ((r_6 i, .inl (cy 0, 40, .inl (fun _ => 0))) : Nat × va_E))) ++ (((List.range 12).map (fun i => ((r_4 i, .inl (cy 0, 40, .inl (fun _ => 0))) : Nat × va_E))) ++ ((List.range 12).map (fun i => ((r_2 i, .inl (cy 0, 40, .inl (fun _ => 0))) : Nat × va_E)))))))) H := hP
  have hD : va_D A (([(h0, .inr (6, [.ref q_1, .ref q_3, .ref q_5, .ref q_7, .ref q_9, .ref q_11, .ref q_12, .ref q_13, .int 0, .ref k0, .ref k1, .null])), (q_1, .inl (cy 6, 12, .inr (.inr (.inr (.inr (fun i => if i < 12 then some (r_2 i) else none)))))), (q_3, .inl (cy 6, 12, .inr (.inr (.inr (.inr (fun i => if i < 12 then some (r_4 i) else none)))))), (q_5, .inl (cy 6, 12, .inr (.inr (.inr (.inr (fun i => if i < 12 then some (r_6 i) else none)))))), (q_7, .inl (cy 6, 12, .inr (.inr (.inr (.inr (fun i => if i < 12 then some (r_8 i) else none)))))), (q_9, .inl (cy 6, 12, .inr (.inr (.inr (.inr (fun i => if i < 12 then some (r_10 i) else none)))))), (q_11, .inl (cy 0, 40, .inl (fun _ => 0))), (q_12, .inl (cy 0, 16, .inl (fun _ => 0))), (q_13, .inl (cy 0, 16, .inl (fun _ => 0)))] : va_W) ++ (((List.range 12).map (fun i => ((r_10 i, .inl (cy 0, 40, .inl (fun _ => 0))) : Nat × va_E))) ++ (((List.range 12).map (fun i => ((r_8 i, .inl (cy 0, 40, .inl (fun _ => 0))) : Nat × va_E))) ++ (((List.range 12).map (fun i => ((r_6 i, .inl (cy 0, 40, .inl (fun _ => 0))) : Nat × va_E))) ++ (((List.range 12).map (fun i => ((r_4 i, .inl (cy 0, 40, .inl (fun _ => 0))) : Nat × va_E))) ++ ((List.range 12).map (fun i => ((r_2 i, .inl (cy 0, 40, .inl (fun _ => 0))) : Nat × va_E)))))))) := hD
  refine lv_aload_n hx hb dX6_init_103 rfl (lv_at hl 0 rfl) ?_
  refine lv_aload_n hx hb dX6_init_104 rfl (lv_at hl 3 rfl) ?_
  refine va_putF (D := (dC, dI)) (ci := 6) (v := .ref k2) (C := RX6) (T := TX6) (N := 12) hx hb hts (fun _ h9 => List.mem_cons_of_mem _ (List.mem_append_right _ h9)) tyX6 tyX6_ok nmX6 hown hK hP hD hS 0 rfl rfl 11 (by decide) (hts (.fieldLink RX6 50 "SeatsRound$Parcels" "choice" "LSeatsRound$Choice;") (List.mem_of_getElem? (i := 17) rfl)) (fun _ h9 => h9) rfl hin rfl (tyX6_ok 11 (by decide)) rfl rfl (Nat.le_of_ble_eq_true rfl) dX6_init_105 (fun H locs hP hD hS => ?_)
  have hP : va_P (dC, dI) vwCl (([(h0, .inr (6, [.ref q_1, .ref q_3, .ref q_5, .ref q_7, .ref q_9, .ref q_11, .ref q_12, .ref q_13, .int 0, .ref k0, .ref k1, .ref k2])), (q_1, .inl (cy 6, 12, .inr (.inr (.inr (.inr (fun i => if i < 12 then some (r_2 i) else none)))))), (q_3, .inl (cy 6, 12, .inr (.inr (.inr (.inr (fun i => if i < 12 then some (r_4 i) else none)))))), (q_5, .inl (cy 6, 12, .inr (.inr (.inr (.inr (fun i => if i < 12 then some (r_6 i) else none)))))), (q_7, .inl (cy 6, 12, .inr (.inr (.inr (.inr (fun i => if i < 12 then some (r_8 i) else none)))))), (q_9, .inl (cy 6, 12, .inr (.inr (.inr (.inr (fun i => if i < 12 then some (r_10 i) else none)))))), (q_11, .inl (cy 0, 40, .inl (fun _ => 0))), (q_12, .inl (cy 0, 16, .inl (fun _ => 0))), (q_13, .inl (cy 0, 16, .inl (fun _ => 0)))] : va_W) ++ (((List.range 12).map (fun i => ((r_10 i, .inl (cy 0, 40, .inl (fun _ => 0))) : Nat × va_E))) ++ (((List.range 12).map (fun i => ((r_8 i, .inl (cy 0, 40, .inl (fun _ => 0))) : Nat × va_E))) ++ (((List.range 12).map (fun i => ((r_6 i, .inl (cy 0, 40, .inl (fun _ => 0))) : Nat × va_E))) ++ (((List.range 12).map (fun i => ((r_4 i, .inl (cy 0, 40, .inl (fun _ => 0))) : Nat × va_E))) ++ ((List.range 12).map (fun i => ((r_2 i, .inl (cy 0, 40, .inl (fun _ => 0))) : Nat × va_E)))))))) H := hP
  have hD : va_D A (([(h0, .inr (6, [.ref q_1, .ref q_3, .ref q_5, .ref q_7, .ref q_9, .ref q_11, .ref q_12, .ref q_13, .int 0, .ref k0, .ref k1, .ref k2])), (q_1, .inl (cy 6, 12, .inr (.inr (.inr (.inr (fun i => if i < 12 then some (r_2 i) else none)))))), (q_3, .inl (cy 6, 12, .inr (.inr (.inr (.inr (fun i => if i < 12 then some (r_4 i) else none)))))), (q_5, .inl (cy 6, 12, .inr (.inr (.inr (.inr (fun i => if i < 12 then some (r_6 i) else none)))))), (q_7, .inl (cy 6, 12, .inr (.inr (.inr (.inr (fun i => if i < 12 then some (r_8 i) else none)))))), (q_9, .inl (cy 6, 12, .inr (.inr (.inr (.inr (fun i => if i < 12 then some (r_10 i) else none)))))), (q_11, .inl (cy 0, 40, .inl (fun _ => 0))), (q_12, .inl (cy 0, 16, .inl (fun _ => 0))), (q_13, .inl (cy 0, 16, .inl (fun _ => 0)))] : va_W) ++ (((List.range 12).map (fun i => ((r_10 i, .inl (cy 0, 40, .inl (fun _ => 0))) : Nat × va_E))) ++ (((List.range 12).map (fun i => ((r_8 i, .inl (cy 0, 40, .inl (fun _ => 0))) : Nat × va_E))) ++ (((List.range 12).map (fun i => ((r_6 i, .inl (cy 0, 40, .inl (fun _ => 0))) : Nat × va_E))) ++ (((List.range 12).map (fun i => ((r_4 i, .inl (cy 0, 40, .inl (fun _ => 0))) : Nat × va_E))) ++ ((List.range 12).map (fun i => ((r_2 i, .inl (cy 0, 40, .inl (fun _ => 0))) : Nat × va_E)))))))) := hD
  change W _ _ _ _ _ _ _ _ _ _ _ _ _ _ _ (F0 m 108 ls [])
  exact W.vret hx hb hr (fun t ht hW => ⟨⟨(fun k => [(fun j => [q_1, q_3, q_5, q_7, q_9, q_11, q_12, q_13].getD j 0), r_10, r_8, r_6, r_4, r_2].getD k (fun _ => 0)), rfl, trivial, ⟨by rw [ht]; exact hP, hD⟩⟩, hS.F ht⟩) hS.2.2 dX6_init_108
set_option maxHeartbeats 4000000 in
set_option maxRecDepth 100000 in
theorem i_Orders (l : Launch) (dC : Nat → ClassId) (dI : Nat → Nat → Nat) (cy : Nat → ClassId) (h0 : Nat) (k0 : Nat) (k1 : Nat) (k2 : Nat) (k3 : Nat) (sz : Nat)  : Met l yX5_init wsX5_init ({ frames := 1, cells := 36, slots := 1354, locals := 23 }) (va_Pc [.ref h0, .ref k0, .ref k1, .ref k2, .ref k3] (wPre (dC, dI) cy [(h0, .inr (5, [.null, .int 0, .null, .int 0, .null, .null, .null, .null, .null, .null]))] sz)) (va_Qv (fun (u : Nat → Nat → Nat) => True) (fun (u : Nat → Nat → Nat) t => wAt (dC, dI) (va_A [(h0, .inr (5, [.null, .int 0, .null, .int 0, .null, .null, .null, .null, .null, .null]))] sz) (([(h0, .inr (5, [.ref (u 0 0), .int 0, .ref (u 0 1), .int 0, .ref (u 0 2), .ref (u 0 3), .ref k0, .ref k1, .ref k2, .ref k3])), ((u 0 0), .inl (cy 0, 5, .inl (fun _ => 0))), ((u 0 1), .inl (cy 0, 5, .inl (fun _ => 0))), ((u 0 2), .inl (cy 6, 32, .inr (.inr (.inr (.inr (fun i => if i < 32 then some ((u 1) i) else none)))))), ((u 0 3), .inl (cy 0, 32, .inl (fun _ => 0)))] : va_W) ++ ((List.range 32).map (fun i => (((u 1) i, .inl (cy 0, 40, .inl (fun _ => 0))) : Nat × va_E)))) t) (va_A [(h0, .inr (5, [.null, .int 0, .null, .int 0, .null, .null, .null, .null, .null, .null]))] sz)) 36 1354 (va_A [(h0, .inr (5, [.null, .int 0, .null, .int 0, .null, .null, .null, .null, .null, .null]))] sz) := by
  refine Met.ofW (cc := cX5_init) (maxL := 5) (ret := none) (by decide) rfl ?_
  intro p e s m args below meth c s₁ B hml hv
  obtain ⟨rfl, hsz, hP, hK, hD0, hN⟩ := hv
  have hx := B.exec
  have hb := B.bytes
  have hr := B.returns
  have hts := atoms_spec (ws := wsX5_init) B.pre
  have hown : s.vm.findClass RX5 = some m.cls := findClass_of_methodNamed B.named
  have hlocks := B.notSynchronized
  subst hsz
  have hin : meth.name = "<init>" := (name_of_methodNamed B.named B.method).1
  have hD := hD0.self (sz := s.heap.size)
  generalize hAe : va_A [(h0, .inr (5, [.null, .int 0, .null, .int 0, .null, .null, .null, .null, .null, .null]))] s.heap.size = A at hD ⊢
  have hA : ∀ q : Nat, s.heap.size ≤ q → A q := fun q h => by rw [← hAe]; exact Or.inr h
  have hS : va_S A s.heap s.heap [] := va_S.rf
  have hl := lv_entry ([.ref h0, .ref k0, .ref k1, .ref k2, .ref k3]) (n := 5) (Nat.le_of_ble_eq_true rfl)
  rw [lg_entry_eq]
  generalize (lg_sl ([.ref h0, .ref k0, .ref k1, .ref k2, .ref k3]) ++ List.replicate (5 - (lg_sl ([.ref h0, .ref k0, .ref k1, .ref k2, .ref k3])).length) Slot.unset).toArray = ls at hl ⊢
  have hl : lv_has ls 5 [(0, .ref h0), (1, .ref k0), (2, .ref k1), (3, .ref k2), (4, .ref k3)] := hl
  refine lv_aload_n hx hb dX5_init_0 rfl (lv_at hl 0 rfl) ?_
  refine W.objInit hx hb hown (hts (.methodLink RX5 3 objectInit) (List.mem_of_getElem? (i := 1) rfl)) (hts (.instanceMethod objectInit) (List.mem_of_getElem? (i := 2) rfl)) (hts (.code objectInit ⟨#[0xb1]⟩ 1 none) (List.mem_of_getElem? (i := 3) rfl)) rfl (hl.1.trans hml.symm) rfl dX5_init_1 (Nat.le_of_ble_eq_true rfl) (Nat.le_of_ble_eq_true rfl) ?_
  refine lv_aload_n hx hb dX5_init_4 rfl (lv_at hl 0 rfl) ?_
  change W _ _ _ _ _ _ _ _ _ _ _ _ _ _ _ (F0 m 5 ls [.ref h0])
  refine lv_iconst (v := 5) hx hb dX5_init_5 (by decide) ?_
  refine vz_newa (atype := .int) (ty := .int) (t0 := 0) (N' := 5) (a0 := (5, .inl (fun _ => 0))) hx hb (hts (.arrayClass .int) (List.mem_of_getElem? (i := 4) rfl)) rfl rfl hK hP hD hS hA (fun _ => rfl) (by decide) rfl (by decide) (Nat.le_of_ble_eq_true rfl) (Nat.le_of_ble_eq_true rfl) dX5_init_6 (fun q_1 H hP hD hS => ?_)
  have hP : va_P (dC, dI) vwCl [(h0, .inr (5, [.null, .int 0, .null, .int 0, .null, .null, .null, .null, .null, .null])), (q_1, .inl (cy 0, 5, .inl (fun _ => 0)))] H := hP
  have hD : va_D A [(h0, .inr (5, [.null, .int 0, .null, .int 0, .null, .null, .null, .null, .null, .null])), (q_1, .inl (cy 0, 5, .inl (fun _ => 0)))] := hD
  refine W.widen (k := 1) (n := 5) (Nat.le_of_ble_eq_true rfl) (Nat.le_of_ble_eq_true rfl) ?_
  refine va_putF (D := (dC, dI)) (ci := 5) (v := .ref q_1) (C := RX5) (T := TX5) (N := 10) hx hb hts (fun _ h9 => List.mem_cons_of_mem _ (List.mem_append_right _ h9)) tyX5 tyX5_ok nmX5 hown hK hP hD hS 0 rfl rfl 0 (by decide) (hts (.fieldLink RX5 9 "SeatsRound$Orders" "told" "[I") (List.mem_of_getElem? (i := 5) rfl)) (fun _ h9 => h9) rfl hin rfl (tyX5_ok 0 (by decide)) rfl rfl (Nat.le_of_ble_eq_true rfl) dX5_init_8 (fun H locs hP hD hS => ?_)
  have hP : va_P (dC, dI) vwCl [(h0, .inr (5, [.ref q_1, .int 0, .null, .int 0, .null, .null, .null, .null, .null, .null])), (q_1, .inl (cy 0, 5, .inl (fun _ => 0)))] H := hP
  have hD : va_D A [(h0, .inr (5, [.ref q_1, .int 0, .null, .int 0, .null, .null, .null, .null, .null, .null])), (q_1, .inl (cy 0, 5, .inl (fun _ => 0)))] := hD
  refine lv_aload_n hx hb dX5_init_11 rfl (lv_at hl 0 rfl) ?_
  refine lv_iconst (v := 0) hx hb dX5_init_12 (by decide) ?_
  refine va_put (D := (dC, dI)) (ci := 5) (v := .int 0) (C := RX5) (T := TX5) (N := 10) hx hb hts (fun _ h9 => List.mem_cons_of_mem _ (List.mem_append_right _ h9)) tyX5 tyX5_ok nmX5 hown hK hP hD hS 0 rfl rfl 1 (by decide) (hts (.fieldLink RX5 15 "SeatsRound$Orders" "toldCount" "I") (List.mem_of_getElem? (i := 6) rfl)) (fun _ h9 => h9) rfl (tyX5_ok 1 (by decide)) rfl rfl (Nat.le_of_ble_eq_true rfl) dX5_init_13 (fun H locs hP hD hS => ?_)
  have hP : va_P (dC, dI) vwCl [(h0, .inr (5, [.ref q_1, .int 0, .null, .int 0, .null, .null, .null, .null, .null, .null])), (q_1, .inl (cy 0, 5, .inl (fun _ => 0)))] H := hP
  have hD : va_D A [(h0, .inr (5, [.ref q_1, .int 0, .null, .int 0, .null, .null, .null, .null, .null, .null])), (q_1, .inl (cy 0, 5, .inl (fun _ => 0)))] := hD
  refine lv_aload_n hx hb dX5_init_16 rfl (lv_at hl 0 rfl) ?_
  refine lv_iconst (v := 5) hx hb dX5_init_17 (by decide) ?_
  change W _ _ _ _ _ _ _ _ _ _ _ _ _ _ _ (F0 m 18 ls [.int 5, .ref h0])
  refine vz_newa (atype := .int) (ty := .int) (t0 := 0) (N' := 5) (a0 := (5, .inl (fun _ => 0))) hx hb (hts (.arrayClass .int) (List.mem_of_getElem? (i := 4) rfl)) rfl rfl hK hP hD hS hA (fun _ => rfl) (by decide) rfl (by decide) (Nat.le_of_ble_eq_true rfl) (Nat.le_of_ble_eq_true rfl) dX5_init_18 (fun q_2 H hP hD hS => ?_)
  have hP : va_P (dC, dI) vwCl [(h0, .inr (5, [.ref q_1, .int 0, .null, .int 0, .null, .null, .null, .null, .null, .null])), (q_1, .inl (cy 0, 5, .inl (fun _ => 0))), (q_2, .inl (cy 0, 5, .inl (fun _ => 0)))] H := hP
  have hD : va_D A [(h0, .inr (5, [.ref q_1, .int 0, .null, .int 0, .null, .null, .null, .null, .null, .null])), (q_1, .inl (cy 0, 5, .inl (fun _ => 0))), (q_2, .inl (cy 0, 5, .inl (fun _ => 0)))] := hD
  refine W.widen (k := 2) (n := 10) (Nat.le_of_ble_eq_true rfl) (Nat.le_of_ble_eq_true rfl) ?_
  refine va_putF (D := (dC, dI)) (ci := 5) (v := .ref q_2) (C := RX5) (T := TX5) (N := 10) hx hb hts (fun _ h9 => List.mem_cons_of_mem _ (List.mem_append_right _ h9)) tyX5 tyX5_ok nmX5 hown hK hP hD hS 0 rfl rfl 2 (by decide) (hts (.fieldLink RX5 19 "SeatsRound$Orders" "path" "[I") (List.mem_of_getElem? (i := 7) rfl)) (fun _ h9 => h9) rfl hin rfl (tyX5_ok 2 (by decide)) rfl rfl (Nat.le_of_ble_eq_true rfl) dX5_init_20 (fun H locs hP hD hS => ?_)
  have hP : va_P (dC, dI) vwCl [(h0, .inr (5, [.ref q_1, .int 0, .ref q_2, .int 0, .null, .null, .null, .null, .null, .null])), (q_1, .inl (cy 0, 5, .inl (fun _ => 0))), (q_2, .inl (cy 0, 5, .inl (fun _ => 0)))] H := hP
  have hD : va_D A [(h0, .inr (5, [.ref q_1, .int 0, .ref q_2, .int 0, .null, .null, .null, .null, .null, .null])), (q_1, .inl (cy 0, 5, .inl (fun _ => 0))), (q_2, .inl (cy 0, 5, .inl (fun _ => 0)))] := hD
  refine lv_aload_n hx hb dX5_init_23 rfl (lv_at hl 0 rfl) ?_
  refine lv_iconst (v := 0) hx hb dX5_init_24 (by decide) ?_
  refine va_put (D := (dC, dI)) (ci := 5) (v := .int 0) (C := RX5) (T := TX5) (N := 10) hx hb hts (fun _ h9 => List.mem_cons_of_mem _ (List.mem_append_right _ h9)) tyX5 tyX5_ok nmX5 hown hK hP hD hS 0 rfl rfl 3 (by decide) (hts (.fieldLink RX5 22 "SeatsRound$Orders" "pathLength" "I") (List.mem_of_getElem? (i := 8) rfl)) (fun _ h9 => h9) rfl (tyX5_ok 3 (by decide)) rfl rfl (Nat.le_of_ble_eq_true rfl) dX5_init_25 (fun H locs hP hD hS => ?_)
  have hP : va_P (dC, dI) vwCl [(h0, .inr (5, [.ref q_1, .int 0, .ref q_2, .int 0, .null, .null, .null, .null, .null, .null])), (q_1, .inl (cy 0, 5, .inl (fun _ => 0))), (q_2, .inl (cy 0, 5, .inl (fun _ => 0)))] H := hP
  have hD : va_D A [(h0, .inr (5, [.ref q_1, .int 0, .ref q_2, .int 0, .null, .null, .null, .null, .null, .null])), (q_1, .inl (cy 0, 5, .inl (fun _ => 0))), (q_2, .inl (cy 0, 5, .inl (fun _ => 0)))] := hD
  refine lv_aload_n hx hb dX5_init_28 rfl (lv_at hl 0 rfl) ?_
  refine lv_bipush (v := 32) hx hb dX5_init_29 (by decide) ?_
  refine lv_bipush (v := 40) hx hb dX5_init_31 (by decide) ?_
  change W _ _ _ _ _ _ _ _ _ _ _ _ _ _ _ (F0 m 33 ls [.int 40, .int 32, .ref h0])
  refine vz_mna (t0 := 6) (t1 := 0) (N' := 32) (K' := 40) (z := (40, .inl (fun _ => 0))) (ty := .int) hx hb hown (hts (.classLink RX5 25 "[[I") (List.mem_of_getElem? (i := 9) rfl)) hN.2.2.2.1 (hts (.arrayClass .int) (List.mem_of_getElem? (i := 4) rfl)) rfl (hK.2 0 _ rfl).2 hK hP hD hS hA (by decide) (by decide) rfl rfl (by decide) (by decide) (by decide) rfl rfl (Nat.le_of_ble_eq_true rfl) (Nat.le_of_ble_eq_true rfl) (fun _ => rfl) dX5_init_33 (fun q_3 r_4 H hP hD hS => ?_)
  have hP := wz_P0 hP
  have hD := wz_D0 hD
  have hP : va_P (dC, dI) vwCl (([(h0, .inr (5, [.ref q_1, .int 0, .ref q_2, .int 0, .null, .null, .null, .null, .null, .null])), (q_1, .inl (cy 0, 5, .inl (fun _ => 0))), (q_2, .inl (cy 0, 5, .inl (fun _ => 0))), (q_3, .inl (cy 6, 32, .inr (.inr (.inr (.inr (fun i => if i < 32 then some (r_4 i) else none))))))] : va_W) ++ ((List.range 32).map (fun i => ((r_4 i, .inl (cy 0, 40, .inl (fun _ => 0))) : Nat × va_E)))) H := hP
  have hD : va_D A (([(h0, .inr (5, [.ref q_1, .int 0, .ref q_2, .int 0, .null, .null, .null, .null, .null, .null])), (q_1, .inl (cy 0, 5, .inl (fun _ => 0))), (q_2, .inl (cy 0, 5, .inl (fun _ => 0))), (q_3, .inl (cy 6, 32, .inr (.inr (.inr (.inr (fun i => if i < 32 then some (r_4 i) else none))))))] : va_W) ++ ((List.range 32).map (fun i => ((r_4 i, .inl (cy 0, 40, .inl (fun _ => 0))) : Nat × va_E)))) := hD
  refine W.widen (k := 35) (n := 1322) (Nat.le_of_ble_eq_true rfl) (Nat.le_of_ble_eq_true rfl) ?_
  refine va_putF (D := (dC, dI)) (ci := 5) (v := .ref q_3) (C := RX5) (T := TX5) (N := 10) hx hb hts (fun _ h9 => List.mem_cons_of_mem _ (List.mem_append_right _ h9)) tyX5 tyX5_ok nmX5 hown hK hP hD hS 0 rfl rfl 4 (by decide) (hts (.fieldLink RX5 27 "SeatsRound$Orders" "holders" "[[I") (List.mem_of_getElem? (i := 10) rfl)) (fun _ h9 => h9) rfl hin rfl (tyX5_ok 4 (by decide)) rfl rfl (Nat.le_of_ble_eq_true rfl) dX5_init_37 (fun H locs hP hD hS => ?_)
  have hP : va_P (dC, dI) vwCl (([(h0, .inr (5, [.ref q_1, .int 0, .ref q_2, .int 0, .ref q_3, .null, .null, .null, .null, .null])), (q_1, .inl (cy 0, 5, .inl (fun _ => 0))), (q_2, .inl (cy 0, 5, .inl (fun _ => 0))), (q_3, .inl (cy 6, 32, .inr (.inr (.inr (.inr (fun i => if i < 32 then some (r_4 i) else none))))))] : va_W) ++ ((List.range 32).map (fun i => ((r_4 i, .inl (cy 0, 40, .inl (fun _ => 0))) : Nat × va_E)))) H := hP
  have hD : va_D A (([(h0, .inr (5, [.ref q_1, .int 0, .ref q_2, .int 0, .ref q_3, .null, .null, .null, .null, .null])), (q_1, .inl (cy 0, 5, .inl (fun _ => 0))), (q_2, .inl (cy 0, 5, .inl (fun _ => 0))), (q_3, .inl (cy 6, 32, .inr (.inr (.inr (.inr (fun i => if i < 32 then some (r_4 i) else none))))))] : va_W) ++ ((List.range 32).map (fun i => ((r_4 i, .inl (cy 0, 40, .inl (fun _ => 0))) : Nat × va_E)))) := hD
  refine lv_aload_n hx hb dX5_init_40 rfl (lv_at hl 0 rfl) ?_
  refine lv_bipush (v := 32) hx hb dX5_init_41 (by decide) ?_
  refine vz_newa (atype := .int) (ty := .int) (t0 := 0) (N' := 32) (a0 := (32, .inl (fun _ => 0))) hx hb (hts (.arrayClass .int) (List.mem_of_getElem? (i := 4) rfl)) rfl rfl hK hP hD hS hA (fun _ => rfl) (by decide) rfl (by decide) (Nat.le_of_ble_eq_true rfl) (Nat.le_of_ble_eq_true rfl) dX5_init_43 (fun q_5 H hP hD hS => ?_)
  have hP := va_P.swap hP
  have hD := va_D.swap hD
  have hP : va_P (dC, dI) vwCl (([(h0, .inr (5, [.ref q_1, .int 0, .ref q_2, .int 0, .ref q_3, .null, .null, .null, .null, .null])), (q_1, .inl (cy 0, 5, .inl (fun _ => 0))), (q_2, .inl (cy 0, 5, .inl (fun _ => 0))), (q_3, .inl (cy 6, 32, .inr (.inr (.inr (.inr (fun i => if i < 32 then some (r_4 i) else none)))))), (q_5, .inl (cy 0, 32, .inl (fun _ => 0)))] : va_W) ++ ((List.range 32).map (fun i => ((r_4 i, .inl (cy 0, 40, .inl (fun _ => 0))) : Nat × va_E)))) H := hP
  have hD : va_D A (([(h0, .inr (5, [.ref q_1, .int 0, .ref q_2, .int 0, .ref q_3, .null, .null, .null, .null, .null])), (q_1, .inl (cy 0, 5, .inl (fun _ => 0))), (q_2, .inl (cy 0, 5, .inl (fun _ => 0))), (q_3, .inl (cy 6, 32, .inr (.inr (.inr (.inr (fun i => if i < 32 then some (r_4 i) else none)))))), (q_5, .inl (cy 0, 32, .inl (fun _ => 0)))] : va_W) ++ ((List.range 32).map (fun i => ((r_4 i, .inl (cy 0, 40, .inl (fun _ => 0))) : Nat × va_E)))) := hD
  refine W.widen (k := 36) (n := 1354) (Nat.le_of_ble_eq_true rfl) (Nat.le_of_ble_eq_true rfl) ?_
  refine va_putF (D := (dC, dI)) (ci := 5) (v := .ref q_5) (C := RX5) (T := TX5) (N := 10) hx hb hts (fun _ h9 => List.mem_cons_of_mem _ (List.mem_append_right _ h9)) tyX5 tyX5_ok nmX5 hown hK hP hD hS 0 rfl rfl 5 (by decide) (hts (.fieldLink RX5 30 "SeatsRound$Orders" "least" "[I") (List.mem_of_getElem? (i := 11) rfl)) (fun _ h9 => h9) rfl hin rfl (tyX5_ok 5 (by decide)) rfl rfl (Nat.le_of_ble_eq_true rfl) dX5_init_45 (fun H locs hP hD hS => ?_)
  have hP : va_P (dC, dI) vwCl (([(h0, .inr (5, [.ref q_1, .int 0, .ref q_2, .int 0, .ref q_3, .ref q_5, .null, .null, .null, .null])), (q_1, .inl (cy 0, 5, .inl (fun _ => 0))), (q_2, .inl (cy 0, 5, .inl (fun _ => 0))), (q_3, .inl (cy 6, 32, .inr (.inr (.inr (.inr (fun i => if i < 32 then some (r_4 i) else none)))))), (q_5, .inl (cy 0, 32, .inl (fun _ => 0)))] : va_W) ++ ((List.range 32).map (fun i => ((r_4 i, .inl (cy 0, 40, .inl (fun _ => 0))) : Nat × va_E)))) H := hP
  have hD : va_D A (([(h0, .inr (5, [.ref q_1, .int 0, .ref q_2, .int 0, .ref q_3, .ref q_5, .null, .null, .null, .null])), (q_1, .inl (cy 0, 5, .inl (fun _ => 0))), (q_2, .inl (cy 0, 5, .inl (fun _ => 0))), (q_3, .inl (cy 6, 32, .inr (.inr (.inr (.inr (fun i => if i < 32 then some (r_4 i) else none)))))), (q_5, .inl (cy 0, 32, .inl (fun _ => 0)))] : va_W) ++ ((List.range 32).map (fun i => ((r_4 i, .inl (cy 0, 40, .inl (fun _ => 0))) : Nat × va_E)))) := hD
  refine lv_aload_n hx hb dX5_init_48 rfl (lv_at hl 0 rfl) ?_
  refine lv_aload_n hx hb dX5_init_49 rfl (lv_at hl 1 rfl) ?_
  change W _ _ _ _ _ _ _ _ _ _ _ _ _ _ _ (F0 m 50 ls [.ref k0, .ref h0])
  refine va_putF (D := (dC, dI)) (ci := 5) (v := .ref k0) (C := RX5) (T := TX5) (N := 10) hx hb hts (fun _ h9 => List.mem_cons_of_mem _ (List.mem_append_right _ h9)) tyX5 tyX5_ok nmX5 hown hK hP hD hS 0 rfl rfl 6 (by decide) (hts (.fieldLink RX5 33 "SeatsRound$Orders" "keepers" "LSeatsRound$Keepers;") (List.mem_of_getElem? (i := 12) rfl)) (fun _ h9 => h9) rfl hin rfl (tyX5_ok 6 (by decide)) rfl rfl (Nat.le_of_ble_eq_true rfl) dX5_init_50 (fun H locs hP hD hS => ?_)
  have hP : va_P (dC, dI) vwCl (([(h0, .inr (5, [.ref q_1, .int 0, .ref q_2, .int 0, .ref q_3, .ref q_5, .ref k0, .null, .null, .null])), (q_1, .inl (cy 0, 5, .inl (fun _ => 0))), (q_2, .inl (cy 0, 5, .inl (fun _ => 0))), (q_3, .inl (cy 6, 32, .inr (.inr (.inr (.inr (fun i => if i < 32 then some (r_4 i) else none)))))), (q_5, .inl (cy 0, 32, .inl (fun _ => 0)))] : va_W) ++ ((List.range 32).map (fun i => ((r_4 i, .inl (cy 0, 40, .inl (fun _ => 0))) : Nat × va_E)))) H := hP
  have hD : va_D A (([(h0, .inr (5, [.ref q_1, .int 0, .ref q_2, .int 0, .ref q_3, .ref q_5, .ref k0, .null, .null, .null])), (q_1, .inl (cy 0, 5, .inl (fun _ => 0))), (q_2, .inl (cy 0, 5, .inl (fun _ => 0))), (q_3, .inl (cy 6, 32, .inr (.inr (.inr (.inr (fun i => if i < 32 then some (r_4 i) else none)))))), (q_5, .inl (cy 0, 32, .inl (fun _ => 0)))] : va_W) ++ ((List.range 32).map (fun i => ((r_4 i, .inl (cy 0, 40, .inl (fun _ => 0))) : Nat × va_E)))) := hD
  refine lv_aload_n hx hb dX5_init_53 rfl (lv_at hl 0 rfl) ?_
  refine lv_aload_n hx hb dX5_init_54 rfl (lv_at hl 2 rfl) ?_
  refine va_putF (D := (dC, dI)) (ci := 5) (v := .ref k1) (C := RX5) (T := TX5) (N := 10) hx hb hts (fun _ h9 => List.mem_cons_of_mem _ (List.mem_append_right _ h9)) tyX5 tyX5_ok nmX5 hown hK hP hD hS 0 rfl rfl 7 (by decide) (hts (.fieldLink RX5 37 "SeatsRound$Orders" "nameList" "LSeatsRound$NameList;") (List.mem_of_getElem? (i := 13) rfl)) (fun _ h9 => h9) rfl hin rfl (tyX5_ok 7 (by decide)) rfl rfl (Nat.le_of_ble_eq_true rfl) dX5_init_55 (fun H locs hP hD hS => ?_)
  have hP : va_P (dC, dI) vwCl (([(h0, .inr (5, [.ref q_1, .int 0, .ref q_2, .int 0, .ref q_3, .ref q_5, .ref k0, .ref k1, .null, .null])), (q_1, .inl (cy 0, 5, .inl (fun _ => 0))), (q_2, .inl (cy 0, 5, .inl (fun _ => 0))), (q_3, .inl (cy 6, 32, .inr (.inr (.inr (.inr (fun i => if i < 32 then some (r_4 i) else none)))))), (q_5, .inl (cy 0, 32, .inl (fun _ => 0)))] : va_W) ++ ((List.range 32).map (fun i => ((r_4 i, .inl (cy 0, 40, .inl (fun _ => 0))) : Nat × va_E)))) H := hP
  have hD : va_D A (([(h0, .inr (5, [.ref q_1, .int 0, .ref q_2, .int 0, .ref q_3, .ref q_5, .ref k0, .ref k1, .null, .null])), (q_1, .inl (cy 0, 5, .inl (fun _ => 0))), (q_2, .inl (cy 0, 5, .inl (fun _ => 0))), (q_3, .inl (cy 6, 32, .inr (.inr (.inr (.inr (fun i => if i < 32 then some (r_4 i) else none)))))), (q_5, .inl (cy 0, 32, .inl (fun _ => 0)))] : va_W) ++ ((List.range 32).map (fun i => ((r_4 i, .inl (cy 0, 40, .inl (fun _ => 0))) : Nat × va_E)))) := hD
  refine lv_aload_n hx hb dX5_init_58 rfl (lv_at hl 0 rfl) ?_
  refine lv_aload_n hx hb dX5_init_59 rfl (lv_at hl 3 rfl) ?_
  refine va_putF (D := (dC, dI)) (ci := 5) (v := .ref k2) (C := RX5) (T := TX5) (N := 10) hx hb hts (fun _ h9 => List.mem_cons_of_mem _ (List.mem_append_right _ h9)) tyX5 tyX5_ok nmX5 hown hK hP hD hS 0 rfl rfl 8 (by decide) (hts (.fieldLink RX5 41 "SeatsRound$Orders" "choice" "LSeatsRound$Choice;") (List.mem_of_getElem? (i := 14) rfl)) (fun _ h9 => h9) rfl hin rfl (tyX5_ok 8 (by decide)) rfl rfl (Nat.le_of_ble_eq_true rfl) dX5_init_60 (fun H locs hP hD hS => ?_)
  have hP : va_P (dC, dI) vwCl (([(h0, .inr (5, [.ref q_1, .int 0, .ref q_2, .int 0, .ref q_3, .ref q_5, .ref k0, .ref k1, .ref k2, .null])), (q_1, .inl (cy 0, 5, .inl (fun _ => 0))), (q_2, .inl (cy 0, 5, .inl (fun _ => 0))), (q_3, .inl (cy 6, 32, .inr (.inr (.inr (.inr (fun i => if i < 32 then some (r_4 i) else none)))))), (q_5, .inl (cy 0, 32, .inl (fun _ => 0)))] : va_W) ++ ((List.range 32).map (fun i => ((r_4 i, .inl (cy 0, 40, .inl (fun _ => 0))) : Nat × va_E)))) H := hP
  have hD : va_D A (([(h0, .inr (5, [.ref q_1, .int 0, .ref q_2, .int 0, .ref q_3, .ref q_5, .ref k0, .ref k1, .ref k2, .null])), (q_1, .inl (cy 0, 5, .inl (fun _ => 0))), (q_2, .inl (cy 0, 5, .inl (fun _ => 0))), (q_3, .inl (cy 6, 32, .inr (.inr (.inr (.inr (fun i => if i < 32 then some (r_4 i) else none)))))), (q_5, .inl (cy 0, 32, .inl (fun _ => 0)))] : va_W) ++ ((List.range 32).map (fun i => ((r_4 i, .inl (cy 0, 40, .inl (fun _ => 0))) : Nat × va_E)))) := hD
  refine lv_aload_n hx hb dX5_init_63 rfl (lv_at hl 0 rfl) ?_
  change W _ _ _ _ _ _ _ _ _ _ _ _ _ _ _ (F0 m 64 ls [.ref h0])
  refine lv_aload hx hb dX5_init_64 (lv_at hl 4 rfl) ?_
  refine va_putF (D := (dC, dI)) (ci := 5) (v := .ref k3) (C := RX5) (T := TX5) (N := 10) hx hb hts (fun _ h9 => List.mem_cons_of_mem _ (List.mem_append_right _ h9)) tyX5 tyX5_ok nmX5 hown hK hP hD hS 0 rfl rfl 9 (by decide) (hts (.fieldLink RX5 45 "SeatsRound$Orders" "law" "LSeatsRound$Law;") (List.mem_of_getElem? (i := 15) rfl)) (fun _ h9 => h9) rfl hin rfl (tyX5_ok 9 (by decide)) rfl rfl (Nat.le_of_ble_eq_true rfl) dX5_init_66 (fun H locs hP hD hS => ?_)
  have hP : va_P (dC, dI) vwCl (([(h0, .inr (5, [.ref q_1, .int 0, .ref q_2, .int 0, .ref q_3, .ref q_5, .ref k0, .ref k1, .ref k2, .ref k3])), (q_1, .inl (cy 0, 5, .inl (fun _ => 0))), (q_2, .inl (cy 0, 5, .inl (fun _ => 0))), (q_3, .inl (cy 6, 32, .inr (.inr (.inr (.inr (fun i => if i < 32 then some (r_4 i) else none)))))), (q_5, .inl (cy 0, 32, .inl (fun _ => 0)))] : va_W) ++ ((List.range 32).map (fun i => ((r_4 i, .inl (cy 0, 40, .inl (fun _ => 0))) : Nat × va_E)))) H := hP
  have hD : va_D A (([(h0, .inr (5, [.ref q_1, .int 0, .ref q_2, .int 0, .ref q_3, .ref q_5, .ref k0, .ref k1, .ref k2, .ref k3])), (q_1, .inl (cy 0, 5, .inl (fun _ => 0))), (q_2, .inl (cy 0, 5, .inl (fun _ => 0))), (q_3, .inl (cy 6, 32, .inr (.inr (.inr (.inr (fun i => if i < 32 then some (r_4 i) else none)))))), (q_5, .inl (cy 0, 32, .inl (fun _ => 0)))] : va_W) ++ ((List.range 32).map (fun i => ((r_4 i, .inl (cy 0, 40, .inl (fun _ => 0))) : Nat × va_E)))) := hD
  exact W.vret hx hb hr (fun t ht hW => ⟨⟨(fun k => [(fun j => [q_1, q_2, q_3, q_5].getD j 0), r_4].getD k (fun _ => 0)), rfl, trivial, ⟨by rw [ht]; exact hP, hD⟩⟩, hS.F ht⟩) hS.2.2 dX5_init_69
set_option maxHeartbeats 4000000 in
set_option maxRecDepth 100000 in
theorem i_Turnings (l : Launch) (dC : Nat → ClassId) (dI : Nat → Nat → Nat) (cy : Nat → ClassId) (h0 : Nat) (k0 : Nat) (sz : Nat)  : Met l yX10_init wsX10_init ({ frames := 1, cells := 2, slots := 18, locals := 23 }) (va_Pc [.ref h0, .ref k0] (wPre (dC, dI) cy [(h0, .inr (10, [.null, .int 0, .int 0, .null, .null]))] sz)) (va_Qv (fun (u : Nat → Nat → Nat) => True) (fun (u : Nat → Nat → Nat) t => wAt (dC, dI) (va_A [(h0, .inr (10, [.null, .int 0, .int 0, .null, .null]))] sz) [(h0, .inr (10, [.ref (u 0 0), .int 0, .int (-1), .ref (u 0 1), .ref k0])), ((u 0 0), .inl (cy 0, 6, .inl (fun _ => 0))), ((u 0 1), .inl (cy 0, 12, .inl (fun _ => 0)))] t) (va_A [(h0, .inr (10, [.null, .int 0, .int 0, .null, .null]))] sz)) 2 18 (va_A [(h0, .inr (10, [.null, .int 0, .int 0, .null, .null]))] sz) := by
  refine Met.ofW (cc := cX10_init) (maxL := 2) (ret := none) (by decide) rfl ?_
  intro p e s m args below meth c s₁ B hml hv
  obtain ⟨rfl, hsz, hP, hK, hD0, hN⟩ := hv
  have hx := B.exec
  have hb := B.bytes
  have hr := B.returns
  have hts := atoms_spec (ws := wsX10_init) B.pre
  have hown : s.vm.findClass RX10 = some m.cls := findClass_of_methodNamed B.named
  have hlocks := B.notSynchronized
  subst hsz
  have hin : meth.name = "<init>" := (name_of_methodNamed B.named B.method).1
  have hD := hD0.self (sz := s.heap.size)
  generalize hAe : va_A [(h0, .inr (10, [.null, .int 0, .int 0, .null, .null]))] s.heap.size = A at hD ⊢
  have hA : ∀ q : Nat, s.heap.size ≤ q → A q := fun q h => by rw [← hAe]; exact Or.inr h
  have hS : va_S A s.heap s.heap [] := va_S.rf
  have hl := lv_entry ([.ref h0, .ref k0]) (n := 2) (Nat.le_of_ble_eq_true rfl)
  rw [lg_entry_eq]
  generalize (lg_sl ([.ref h0, .ref k0]) ++ List.replicate (2 - (lg_sl ([.ref h0, .ref k0])).length) Slot.unset).toArray = ls at hl ⊢
  have hl : lv_has ls 2 [(0, .ref h0), (1, .ref k0)] := hl
  refine lv_aload_n hx hb dX10_init_0 rfl (lv_at hl 0 rfl) ?_
  refine W.objInit hx hb hown (hts (.methodLink RX10 3 objectInit) (List.mem_of_getElem? (i := 1) rfl)) (hts (.instanceMethod objectInit) (List.mem_of_getElem? (i := 2) rfl)) (hts (.code objectInit ⟨#[0xb1]⟩ 1 none) (List.mem_of_getElem? (i := 3) rfl)) rfl (hl.1.trans hml.symm) rfl dX10_init_1 (Nat.le_of_ble_eq_true rfl) (Nat.le_of_ble_eq_true rfl) ?_
  refine lv_aload_n hx hb dX10_init_4 rfl (lv_at hl 0 rfl) ?_
  change W _ _ _ _ _ _ _ _ _ _ _ _ _ _ _ (F0 m 5 ls [.ref h0])
  refine lv_bipush (v := 6) hx hb dX10_init_5 (by decide) ?_
  refine vz_newa (atype := .int) (ty := .int) (t0 := 0) (N' := 6) (a0 := (6, .inl (fun _ => 0))) hx hb (hts (.arrayClass .int) (List.mem_of_getElem? (i := 4) rfl)) rfl rfl hK hP hD hS hA (fun _ => rfl) (by decide) rfl (by decide) (Nat.le_of_ble_eq_true rfl) (Nat.le_of_ble_eq_true rfl) dX10_init_7 (fun q_1 H hP hD hS => ?_)
  have hP : va_P (dC, dI) vwCl [(h0, .inr (10, [.null, .int 0, .int 0, .null, .null])), (q_1, .inl (cy 0, 6, .inl (fun _ => 0)))] H := hP
  have hD : va_D A [(h0, .inr (10, [.null, .int 0, .int 0, .null, .null])), (q_1, .inl (cy 0, 6, .inl (fun _ => 0)))] := hD
  refine W.widen (k := 1) (n := 6) (Nat.le_of_ble_eq_true rfl) (Nat.le_of_ble_eq_true rfl) ?_
  refine va_putF (D := (dC, dI)) (ci := 10) (v := .ref q_1) (C := RX10) (T := TX10) (N := 5) hx hb hts (fun _ h9 => List.mem_cons_of_mem _ (List.mem_append_right _ h9)) tyX10 tyX10_ok nmX10 hown hK hP hD hS 0 rfl rfl 0 (by decide) (hts (.fieldLink RX10 9 "SeatsRound$Turnings" "told" "[I") (List.mem_of_getElem? (i := 5) rfl)) (fun _ h9 => h9) rfl hin rfl (tyX10_ok 0 (by decide)) rfl rfl (Nat.le_of_ble_eq_true rfl) dX10_init_9 (fun H locs hP hD hS => ?_)
  have hP : va_P (dC, dI) vwCl [(h0, .inr (10, [.ref q_1, .int 0, .int 0, .null, .null])), (q_1, .inl (cy 0, 6, .inl (fun _ => 0)))] H := hP
  have hD : va_D A [(h0, .inr (10, [.ref q_1, .int 0, .int 0, .null, .null])), (q_1, .inl (cy 0, 6, .inl (fun _ => 0)))] := hD
  refine lv_aload_n hx hb dX10_init_12 rfl (lv_at hl 0 rfl) ?_
  refine lv_iconst (v := 0) hx hb dX10_init_13 (by decide) ?_
  refine va_put (D := (dC, dI)) (ci := 10) (v := .int 0) (C := RX10) (T := TX10) (N := 5) hx hb hts (fun _ h9 => List.mem_cons_of_mem _ (List.mem_append_right _ h9)) tyX10 tyX10_ok nmX10 hown hK hP hD hS 0 rfl rfl 1 (by decide) (hts (.fieldLink RX10 15 "SeatsRound$Turnings" "count" "I") (List.mem_of_getElem? (i := 6) rfl)) (fun _ h9 => h9) rfl (tyX10_ok 1 (by decide)) rfl rfl (Nat.le_of_ble_eq_true rfl) dX10_init_14 (fun H locs hP hD hS => ?_)
  have hP : va_P (dC, dI) vwCl [(h0, .inr (10, [.ref q_1, .int 0, .int 0, .null, .null])), (q_1, .inl (cy 0, 6, .inl (fun _ => 0)))] H := hP
  have hD : va_D A [(h0, .inr (10, [.ref q_1, .int 0, .int 0, .null, .null])), (q_1, .inl (cy 0, 6, .inl (fun _ => 0)))] := hD
  refine lv_aload_n hx hb dX10_init_17 rfl (lv_at hl 0 rfl) ?_
  refine lv_iconst (v := (-1)) hx hb dX10_init_18 (by decide) ?_
  change W _ _ _ _ _ _ _ _ _ _ _ _ _ _ _ (F0 m 19 ls [.int (-1), .ref h0])
  refine va_put (D := (dC, dI)) (ci := 10) (v := .int (-1)) (C := RX10) (T := TX10) (N := 5) hx hb hts (fun _ h9 => List.mem_cons_of_mem _ (List.mem_append_right _ h9)) tyX10 tyX10_ok nmX10 hown hK hP hD hS 0 rfl rfl 2 (by decide) (hts (.fieldLink RX10 19 "SeatsRound$Turnings" "greatest" "I") (List.mem_of_getElem? (i := 7) rfl)) (fun _ h9 => h9) rfl (tyX10_ok 2 (by decide)) rfl rfl (Nat.le_of_ble_eq_true rfl) dX10_init_19 (fun H locs hP hD hS => ?_)
  have hP : va_P (dC, dI) vwCl [(h0, .inr (10, [.ref q_1, .int 0, .int (-1), .null, .null])), (q_1, .inl (cy 0, 6, .inl (fun _ => 0)))] H := hP
  have hD : va_D A [(h0, .inr (10, [.ref q_1, .int 0, .int (-1), .null, .null])), (q_1, .inl (cy 0, 6, .inl (fun _ => 0)))] := hD
  refine lv_aload_n hx hb dX10_init_22 rfl (lv_at hl 0 rfl) ?_
  refine lv_bipush (v := 12) hx hb dX10_init_23 (by decide) ?_
  refine vz_newa (atype := .int) (ty := .int) (t0 := 0) (N' := 12) (a0 := (12, .inl (fun _ => 0))) hx hb (hts (.arrayClass .int) (List.mem_of_getElem? (i := 4) rfl)) rfl rfl hK hP hD hS hA (fun _ => rfl) (by decide) rfl (by decide) (Nat.le_of_ble_eq_true rfl) (Nat.le_of_ble_eq_true rfl) dX10_init_25 (fun q_2 H hP hD hS => ?_)
  have hP : va_P (dC, dI) vwCl [(h0, .inr (10, [.ref q_1, .int 0, .int (-1), .null, .null])), (q_1, .inl (cy 0, 6, .inl (fun _ => 0))), (q_2, .inl (cy 0, 12, .inl (fun _ => 0)))] H := hP
  have hD : va_D A [(h0, .inr (10, [.ref q_1, .int 0, .int (-1), .null, .null])), (q_1, .inl (cy 0, 6, .inl (fun _ => 0))), (q_2, .inl (cy 0, 12, .inl (fun _ => 0)))] := hD
  refine W.widen (k := 2) (n := 18) (Nat.le_of_ble_eq_true rfl) (Nat.le_of_ble_eq_true rfl) ?_
  refine va_putF (D := (dC, dI)) (ci := 10) (v := .ref q_2) (C := RX10) (T := TX10) (N := 5) hx hb hts (fun _ h9 => List.mem_cons_of_mem _ (List.mem_append_right _ h9)) tyX10 tyX10_ok nmX10 hown hK hP hD hS 0 rfl rfl 3 (by decide) (hts (.fieldLink RX10 22 "SeatsRound$Turnings" "shares" "[I") (List.mem_of_getElem? (i := 8) rfl)) (fun _ h9 => h9) rfl hin rfl (tyX10_ok 3 (by decide)) rfl rfl (Nat.le_of_ble_eq_true rfl) dX10_init_27 (fun H locs hP hD hS => ?_)
  have hP : va_P (dC, dI) vwCl [(h0, .inr (10, [.ref q_1, .int 0, .int (-1), .ref q_2, .null])), (q_1, .inl (cy 0, 6, .inl (fun _ => 0))), (q_2, .inl (cy 0, 12, .inl (fun _ => 0)))] H := hP
  have hD : va_D A [(h0, .inr (10, [.ref q_1, .int 0, .int (-1), .ref q_2, .null])), (q_1, .inl (cy 0, 6, .inl (fun _ => 0))), (q_2, .inl (cy 0, 12, .inl (fun _ => 0)))] := hD
  refine lv_aload_n hx hb dX10_init_30 rfl (lv_at hl 0 rfl) ?_
  refine lv_aload_n hx hb dX10_init_31 rfl (lv_at hl 1 rfl) ?_
  refine va_putF (D := (dC, dI)) (ci := 10) (v := .ref k0) (C := RX10) (T := TX10) (N := 5) hx hb hts (fun _ h9 => List.mem_cons_of_mem _ (List.mem_append_right _ h9)) tyX10 tyX10_ok nmX10 hown hK hP hD hS 0 rfl rfl 4 (by decide) (hts (.fieldLink RX10 25 "SeatsRound$Turnings" "nameList" "LSeatsRound$NameList;") (List.mem_of_getElem? (i := 9) rfl)) (fun _ h9 => h9) rfl hin rfl (tyX10_ok 4 (by decide)) rfl rfl (Nat.le_of_ble_eq_true rfl) dX10_init_32 (fun H locs hP hD hS => ?_)
  have hP : va_P (dC, dI) vwCl [(h0, .inr (10, [.ref q_1, .int 0, .int (-1), .ref q_2, .ref k0])), (q_1, .inl (cy 0, 6, .inl (fun _ => 0))), (q_2, .inl (cy 0, 12, .inl (fun _ => 0)))] H := hP
  have hD : va_D A [(h0, .inr (10, [.ref q_1, .int 0, .int (-1), .ref q_2, .ref k0])), (q_1, .inl (cy 0, 6, .inl (fun _ => 0))), (q_2, .inl (cy 0, 12, .inl (fun _ => 0)))] := hD
  change W _ _ _ _ _ _ _ _ _ _ _ _ _ _ _ (F0 m 35 ls [])
  exact W.vret hx hb hr (fun t ht hW => ⟨⟨(fun k => [(fun j => [q_1, q_2].getD j 0)].getD k (fun _ => 0)), rfl, trivial, ⟨by rw [ht]; exact hP, hD⟩⟩, hS.F ht⟩) hS.2.2 dX10_init_35
set_option maxHeartbeats 4000000 in
set_option maxRecDepth 100000 in
theorem i_Acts (l : Launch) (dC : Nat → ClassId) (dI : Nat → Nat → Nat) (cy : Nat → ClassId) (h0 : Nat) (sz : Nat)  : Met l yX0_init wsX0_init ({ frames := 1, cells := 1, slots := 24, locals := 23 }) (va_Pc [.ref h0] (wPre (dC, dI) cy [(h0, .inr (0, [.null, .int 0, .int 0, .int 0, .int 0]))] sz)) (va_Qv (fun (u : Nat → Nat → Nat) => True) (fun (u : Nat → Nat → Nat) t => wAt (dC, dI) (va_A [(h0, .inr (0, [.null, .int 0, .int 0, .int 0, .int 0]))] sz) [(h0, .inr (0, [.ref (u 0 0), .int 0, .int 0, .int 0, .int 0])), ((u 0 0), .inl (cy 0, 24, .inl (fun _ => 0)))] t) (va_A [(h0, .inr (0, [.null, .int 0, .int 0, .int 0, .int 0]))] sz)) 1 24 (va_A [(h0, .inr (0, [.null, .int 0, .int 0, .int 0, .int 0]))] sz) := by
  refine Met.ofW (cc := cX0_init) (maxL := 1) (ret := none) (by decide) rfl ?_
  intro p e s m args below meth c s₁ B hml hv
  obtain ⟨rfl, hsz, hP, hK, hD0, hN⟩ := hv
  have hx := B.exec
  have hb := B.bytes
  have hr := B.returns
  have hts := atoms_spec (ws := wsX0_init) B.pre
  have hown : s.vm.findClass RX0 = some m.cls := findClass_of_methodNamed B.named
  have hlocks := B.notSynchronized
  subst hsz
  have hin : meth.name = "<init>" := (name_of_methodNamed B.named B.method).1
  have hD := hD0.self (sz := s.heap.size)
  generalize hAe : va_A [(h0, .inr (0, [.null, .int 0, .int 0, .int 0, .int 0]))] s.heap.size = A at hD ⊢
  have hA : ∀ q : Nat, s.heap.size ≤ q → A q := fun q h => by rw [← hAe]; exact Or.inr h
  have hS : va_S A s.heap s.heap [] := va_S.rf
  have hl := lv_entry ([.ref h0]) (n := 1) (Nat.le_of_ble_eq_true rfl)
  rw [lg_entry_eq]
  generalize (lg_sl ([.ref h0]) ++ List.replicate (1 - (lg_sl ([.ref h0])).length) Slot.unset).toArray = ls at hl ⊢
  have hl : lv_has ls 1 [(0, .ref h0)] := hl
  refine lv_aload_n hx hb dX0_init_0 rfl (lv_at hl 0 rfl) ?_
  refine W.objInit hx hb hown (hts (.methodLink RX0 3 objectInit) (List.mem_of_getElem? (i := 1) rfl)) (hts (.instanceMethod objectInit) (List.mem_of_getElem? (i := 2) rfl)) (hts (.code objectInit ⟨#[0xb1]⟩ 1 none) (List.mem_of_getElem? (i := 3) rfl)) rfl (hl.1.trans hml.symm) rfl dX0_init_1 (Nat.le_of_ble_eq_true rfl) (Nat.le_of_ble_eq_true rfl) ?_
  refine lv_aload_n hx hb dX0_init_4 rfl (lv_at hl 0 rfl) ?_
  refine lv_bipush (v := 24) hx hb dX0_init_5 (by decide) ?_
  refine vz_newa (atype := .int) (ty := .int) (t0 := 0) (N' := 24) (a0 := (24, .inl (fun _ => 0))) hx hb (hts (.arrayClass .int) (List.mem_of_getElem? (i := 4) rfl)) rfl rfl hK hP hD hS hA (fun _ => rfl) (by decide) rfl (by decide) (Nat.le_of_ble_eq_true rfl) (Nat.le_of_ble_eq_true rfl) dX0_init_7 (fun q_1 H hP hD hS => ?_)
  have hP : va_P (dC, dI) vwCl [(h0, .inr (0, [.null, .int 0, .int 0, .int 0, .int 0])), (q_1, .inl (cy 0, 24, .inl (fun _ => 0)))] H := hP
  have hD : va_D A [(h0, .inr (0, [.null, .int 0, .int 0, .int 0, .int 0])), (q_1, .inl (cy 0, 24, .inl (fun _ => 0)))] := hD
  refine W.widen (k := 1) (n := 24) (Nat.le_of_ble_eq_true rfl) (Nat.le_of_ble_eq_true rfl) ?_
  refine va_putF (D := (dC, dI)) (ci := 0) (v := .ref q_1) (C := RX0) (T := TX0) (N := 5) hx hb hts (fun _ h9 => List.mem_cons_of_mem _ (List.mem_append_right _ h9)) tyX0 tyX0_ok nmX0 hown hK hP hD hS 0 rfl rfl 0 (by decide) (hts (.fieldLink RX0 9 "SeatsRound$Acts" "bodies" "[I") (List.mem_of_getElem? (i := 5) rfl)) (fun _ h9 => h9) rfl hin rfl (tyX0_ok 0 (by decide)) rfl rfl (Nat.le_of_ble_eq_true rfl) dX0_init_9 (fun H locs hP hD hS => ?_)
  have hP : va_P (dC, dI) vwCl [(h0, .inr (0, [.ref q_1, .int 0, .int 0, .int 0, .int 0])), (q_1, .inl (cy 0, 24, .inl (fun _ => 0)))] H := hP
  have hD : va_D A [(h0, .inr (0, [.ref q_1, .int 0, .int 0, .int 0, .int 0])), (q_1, .inl (cy 0, 24, .inl (fun _ => 0)))] := hD
  change W _ _ _ _ _ _ _ _ _ _ _ _ _ _ _ (F0 m 12 ls [])
  refine lv_aload_n hx hb dX0_init_12 rfl (lv_at hl 0 rfl) ?_
  refine lv_iconst (v := 0) hx hb dX0_init_13 (by decide) ?_
  refine va_put (D := (dC, dI)) (ci := 0) (v := .int 0) (C := RX0) (T := TX0) (N := 5) hx hb hts (fun _ h9 => List.mem_cons_of_mem _ (List.mem_append_right _ h9)) tyX0 tyX0_ok nmX0 hown hK hP hD hS 0 rfl rfl 1 (by decide) (hts (.fieldLink RX0 15 "SeatsRound$Acts" "ran" "I") (List.mem_of_getElem? (i := 6) rfl)) (fun _ h9 => h9) rfl (tyX0_ok 1 (by decide)) rfl rfl (Nat.le_of_ble_eq_true rfl) dX0_init_14 (fun H locs hP hD hS => ?_)
  have hP : va_P (dC, dI) vwCl [(h0, .inr (0, [.ref q_1, .int 0, .int 0, .int 0, .int 0])), (q_1, .inl (cy 0, 24, .inl (fun _ => 0)))] H := hP
  have hD : va_D A [(h0, .inr (0, [.ref q_1, .int 0, .int 0, .int 0, .int 0])), (q_1, .inl (cy 0, 24, .inl (fun _ => 0)))] := hD
  refine lv_aload_n hx hb dX0_init_17 rfl (lv_at hl 0 rfl) ?_
  refine lv_iconst (v := 0) hx hb dX0_init_18 (by decide) ?_
  refine va_put (D := (dC, dI)) (ci := 0) (v := .int 0) (C := RX0) (T := TX0) (N := 5) hx hb hts (fun _ h9 => List.mem_cons_of_mem _ (List.mem_append_right _ h9)) tyX0 tyX0_ok nmX0 hown hK hP hD hS 0 rfl rfl 2 (by decide) (hts (.fieldLink RX0 19 "SeatsRound$Acts" "own" "I") (List.mem_of_getElem? (i := 7) rfl)) (fun _ h9 => h9) rfl (tyX0_ok 2 (by decide)) rfl rfl (Nat.le_of_ble_eq_true rfl) dX0_init_19 (fun H locs hP hD hS => ?_)
  have hP : va_P (dC, dI) vwCl [(h0, .inr (0, [.ref q_1, .int 0, .int 0, .int 0, .int 0])), (q_1, .inl (cy 0, 24, .inl (fun _ => 0)))] H := hP
  have hD : va_D A [(h0, .inr (0, [.ref q_1, .int 0, .int 0, .int 0, .int 0])), (q_1, .inl (cy 0, 24, .inl (fun _ => 0)))] := hD
  refine lv_aload_n hx hb dX0_init_22 rfl (lv_at hl 0 rfl) ?_
  refine lv_iconst (v := 0) hx hb dX0_init_23 (by decide) ?_
  change W _ _ _ _ _ _ _ _ _ _ _ _ _ _ _ (F0 m 24 ls [.int 0, .ref h0])
  refine va_put (D := (dC, dI)) (ci := 0) (v := .int 0) (C := RX0) (T := TX0) (N := 5) hx hb hts (fun _ h9 => List.mem_cons_of_mem _ (List.mem_append_right _ h9)) tyX0 tyX0_ok nmX0 hown hK hP hD hS 0 rfl rfl 3 (by decide) (hts (.fieldLink RX0 22 "SeatsRound$Acts" "number" "I") (List.mem_of_getElem? (i := 8) rfl)) (fun _ h9 => h9) rfl (tyX0_ok 3 (by decide)) rfl rfl (Nat.le_of_ble_eq_true rfl) dX0_init_24 (fun H locs hP hD hS => ?_)
  have hP : va_P (dC, dI) vwCl [(h0, .inr (0, [.ref q_1, .int 0, .int 0, .int 0, .int 0])), (q_1, .inl (cy 0, 24, .inl (fun _ => 0)))] H := hP
  have hD : va_D A [(h0, .inr (0, [.ref q_1, .int 0, .int 0, .int 0, .int 0])), (q_1, .inl (cy 0, 24, .inl (fun _ => 0)))] := hD
  refine lv_aload_n hx hb dX0_init_27 rfl (lv_at hl 0 rfl) ?_
  refine lv_iconst (v := 0) hx hb dX0_init_28 (by decide) ?_
  refine va_put (D := (dC, dI)) (ci := 0) (v := .int 0) (C := RX0) (T := TX0) (N := 5) hx hb hts (fun _ h9 => List.mem_cons_of_mem _ (List.mem_append_right _ h9)) tyX0 tyX0_ok nmX0 hown hK hP hD hS 0 rfl rfl 4 (by decide) (hts (.fieldLink RX0 25 "SeatsRound$Acts" "strength" "I") (List.mem_of_getElem? (i := 9) rfl)) (fun _ h9 => h9) rfl (tyX0_ok 4 (by decide)) rfl rfl (Nat.le_of_ble_eq_true rfl) dX0_init_29 (fun H locs hP hD hS => ?_)
  have hP : va_P (dC, dI) vwCl [(h0, .inr (0, [.ref q_1, .int 0, .int 0, .int 0, .int 0])), (q_1, .inl (cy 0, 24, .inl (fun _ => 0)))] H := hP
  have hD : va_D A [(h0, .inr (0, [.ref q_1, .int 0, .int 0, .int 0, .int 0])), (q_1, .inl (cy 0, 24, .inl (fun _ => 0)))] := hD
  exact W.vret hx hb hr (fun t ht hW => ⟨⟨(fun k => [(fun j => [q_1].getD j 0)].getD k (fun _ => 0)), rfl, trivial, ⟨by rw [ht]; exact hP, hD⟩⟩, hS.F ht⟩) hS.2.2 dX0_init_32
end
section
set_option maxHeartbeats 4000000 in
set_option maxRecDepth 100000 in
theorem i_Rows (l : Launch) (dC : Nat → ClassId) (dI : Nat → Nat → Nat) (cy : Nat → ClassId) (h0 : Nat) (sz : Nat)  : Met l yX7_init wsX7_init ({ frames := 2, cells := 10, slots := 384, locals := 46 }) (va_Pc [.ref h0] (wPre (dC, dI) cy [(h0, .inr (7, [.null, .null, .null, .null]))] sz)) (va_Qv (fun (u : Nat → Nat → Nat) => True) (fun (u : Nat → Nat → Nat) t => wAt (dC, dI) (va_A [(h0, .inr (7, [.null, .null, .null, .null]))] sz) (([(h0, .inr (7, [.ref (u 0 0), .ref (u 0 1), .ref (u 0 2), .ref (u 0 3)])), ((u 0 2), .inl (cy 0, 6, .inl (fun _ => 0))), ((u 0 3), .inl (cy 7, 6, .inr (.inr (.inr (.inr (fun i => if i < 6 then some ((u 1) i) else none)))))), ((u 0 0), .inl (cy 0, 6, .inl (fun _ => (-1)))), ((u 0 1), .inl (cy 0, 6, .inl (fun _ => (-1))))] : va_W) ++ ((List.range 6).map (fun i => (((u 1) i, .inl (cy 4, 60, .inr (.inl (fun _ => 0)))) : Nat × va_E)))) t) (va_A [(h0, .inr (7, [.null, .null, .null, .null]))] sz)) 10 384 (va_A [(h0, .inr (7, [.null, .null, .null, .null]))] sz) := by
  refine Met.ofW (cc := cX7_init) (maxL := 1) (ret := none) (by decide) rfl ?_
  intro p e s m args below meth c s₁ B hml hv
  obtain ⟨rfl, hsz, hP, hK, hD0, hN⟩ := hv
  have hx := B.exec
  have hb := B.bytes
  have hr := B.returns
  have hts := atoms_spec (ws := wsX7_init) B.pre
  have hown : s.vm.findClass RX7 = some m.cls := findClass_of_methodNamed B.named
  have hlocks := B.notSynchronized
  subst hsz
  have hin : meth.name = "<init>" := (name_of_methodNamed B.named B.method).1
  have hD := hD0.self (sz := s.heap.size)
  generalize hAe : va_A [(h0, .inr (7, [.null, .null, .null, .null]))] s.heap.size = A at hD ⊢
  have hA : ∀ q : Nat, s.heap.size ≤ q → A q := fun q h => by rw [← hAe]; exact Or.inr h
  have hS : va_S A s.heap s.heap [] := va_S.rf
  have hl := lv_entry ([.ref h0]) (n := 1) (Nat.le_of_ble_eq_true rfl)
  rw [lg_entry_eq]
  generalize (lg_sl ([.ref h0]) ++ List.replicate (1 - (lg_sl ([.ref h0])).length) Slot.unset).toArray = ls at hl ⊢
  have hl : lv_has ls 1 [(0, .ref h0)] := hl
  refine lv_aload_n hx hb dX7_init_0 rfl (lv_at hl 0 rfl) ?_
  change W _ _ _ _ _ _ _ _ _ _ _ _ _ _ _ (F0 m 1 ls [.ref h0])
  refine W.objInit hx hb hown (hts (.methodLink RX7 3 objectInit) (List.mem_of_getElem? (i := 1) rfl)) (hts (.instanceMethod objectInit) (List.mem_of_getElem? (i := 2) rfl)) (hts (.code objectInit ⟨#[0xb1]⟩ 1 none) (List.mem_of_getElem? (i := 3) rfl)) rfl (hl.1.trans hml.symm) rfl dX7_init_1 (Nat.le_of_ble_eq_true rfl) (Nat.le_of_ble_eq_true rfl) ?_
  refine lv_aload_n hx hb dX7_init_4 rfl (lv_at hl 0 rfl) ?_
  refine lv_bipush (v := 6) hx hb dX7_init_5 (by decide) ?_
  refine vz_newa (atype := .int) (ty := .int) (t0 := 0) (N' := 6) (a0 := (6, .inl (fun _ => 0))) hx hb (hts (.arrayClass .int) (List.mem_of_getElem? (i := 4) rfl)) rfl rfl hK hP hD hS hA (fun _ => rfl) (by decide) rfl (by decide) (Nat.le_of_ble_eq_true rfl) (Nat.le_of_ble_eq_true rfl) dX7_init_7 (fun q_1 H hP hD hS => ?_)
  have hP : va_P (dC, dI) vwCl [(h0, .inr (7, [.null, .null, .null, .null])), (q_1, .inl (cy 0, 6, .inl (fun _ => 0)))] H := hP
  have hD : va_D A [(h0, .inr (7, [.null, .null, .null, .null])), (q_1, .inl (cy 0, 6, .inl (fun _ => 0)))] := hD
  refine W.widen (k := 1) (n := 6) (Nat.le_of_ble_eq_true rfl) (Nat.le_of_ble_eq_true rfl) ?_
  refine va_putF (D := (dC, dI)) (ci := 7) (v := .ref q_1) (C := RX7) (T := TX7) (N := 4) hx hb hts (fun _ h9 => List.mem_cons_of_mem _ (List.mem_append_right _ h9)) tyX7 tyX7_ok nmX7 hown hK hP hD hS 0 rfl rfl 0 (by decide) (hts (.fieldLink RX7 9 "SeatsRound$Rows" "keeper" "[I") (List.mem_of_getElem? (i := 5) rfl)) (fun _ h9 => h9) rfl hin rfl (tyX7_ok 0 (by decide)) rfl rfl (Nat.le_of_ble_eq_true rfl) dX7_init_9 (fun H locs hP hD hS => ?_)
  have hP : va_P (dC, dI) vwCl [(h0, .inr (7, [.ref q_1, .null, .null, .null])), (q_1, .inl (cy 0, 6, .inl (fun _ => 0)))] H := hP
  have hD : va_D A [(h0, .inr (7, [.ref q_1, .null, .null, .null])), (q_1, .inl (cy 0, 6, .inl (fun _ => 0)))] := hD
  refine lv_aload_n hx hb dX7_init_12 rfl (lv_at hl 0 rfl) ?_
  refine lv_bipush (v := 6) hx hb dX7_init_13 (by decide) ?_
  refine vz_newa (atype := .int) (ty := .int) (t0 := 0) (N' := 6) (a0 := (6, .inl (fun _ => 0))) hx hb (hts (.arrayClass .int) (List.mem_of_getElem? (i := 4) rfl)) rfl rfl hK hP hD hS hA (fun _ => rfl) (by decide) rfl (by decide) (Nat.le_of_ble_eq_true rfl) (Nat.le_of_ble_eq_true rfl) dX7_init_15 (fun q_2 H hP hD hS => ?_)
  have hP : va_P (dC, dI) vwCl [(h0, .inr (7, [.ref q_1, .null, .null, .null])), (q_1, .inl (cy 0, 6, .inl (fun _ => 0))), (q_2, .inl (cy 0, 6, .inl (fun _ => 0)))] H := hP
  have hD : va_D A [(h0, .inr (7, [.ref q_1, .null, .null, .null])), (q_1, .inl (cy 0, 6, .inl (fun _ => 0))), (q_2, .inl (cy 0, 6, .inl (fun _ => 0)))] := hD
  refine W.widen (k := 2) (n := 12) (Nat.le_of_ble_eq_true rfl) (Nat.le_of_ble_eq_true rfl) ?_
  change W _ _ _ _ _ _ _ _ _ _ _ _ _ _ _ (F0 m 17 ls [.ref q_2, .ref h0])
  refine va_putF (D := (dC, dI)) (ci := 7) (v := .ref q_2) (C := RX7) (T := TX7) (N := 4) hx hb hts (fun _ h9 => List.mem_cons_of_mem _ (List.mem_append_right _ h9)) tyX7 tyX7_ok nmX7 hown hK hP hD hS 0 rfl rfl 1 (by decide) (hts (.fieldLink RX7 15 "SeatsRound$Rows" "sort" "[I") (List.mem_of_getElem? (i := 6) rfl)) (fun _ h9 => h9) rfl hin rfl (tyX7_ok 1 (by decide)) rfl rfl (Nat.le_of_ble_eq_true rfl) dX7_init_17 (fun H locs hP hD hS => ?_)
  have hP : va_P (dC, dI) vwCl [(h0, .inr (7, [.ref q_1, .ref q_2, .null, .null])), (q_1, .inl (cy 0, 6, .inl (fun _ => 0))), (q_2, .inl (cy 0, 6, .inl (fun _ => 0)))] H := hP
  have hD : va_D A [(h0, .inr (7, [.ref q_1, .ref q_2, .null, .null])), (q_1, .inl (cy 0, 6, .inl (fun _ => 0))), (q_2, .inl (cy 0, 6, .inl (fun _ => 0)))] := hD
  refine lv_aload_n hx hb dX7_init_20 rfl (lv_at hl 0 rfl) ?_
  refine lv_bipush (v := 6) hx hb dX7_init_21 (by decide) ?_
  refine vz_newa (atype := .int) (ty := .int) (t0 := 0) (N' := 6) (a0 := (6, .inl (fun _ => 0))) hx hb (hts (.arrayClass .int) (List.mem_of_getElem? (i := 4) rfl)) rfl rfl hK hP hD hS hA (fun _ => rfl) (by decide) rfl (by decide) (Nat.le_of_ble_eq_true rfl) (Nat.le_of_ble_eq_true rfl) dX7_init_23 (fun q_3 H hP hD hS => ?_)
  have hP : va_P (dC, dI) vwCl [(h0, .inr (7, [.ref q_1, .ref q_2, .null, .null])), (q_1, .inl (cy 0, 6, .inl (fun _ => 0))), (q_2, .inl (cy 0, 6, .inl (fun _ => 0))), (q_3, .inl (cy 0, 6, .inl (fun _ => 0)))] H := hP
  have hD : va_D A [(h0, .inr (7, [.ref q_1, .ref q_2, .null, .null])), (q_1, .inl (cy 0, 6, .inl (fun _ => 0))), (q_2, .inl (cy 0, 6, .inl (fun _ => 0))), (q_3, .inl (cy 0, 6, .inl (fun _ => 0)))] := hD
  refine W.widen (k := 3) (n := 18) (Nat.le_of_ble_eq_true rfl) (Nat.le_of_ble_eq_true rfl) ?_
  refine va_putF (D := (dC, dI)) (ci := 7) (v := .ref q_3) (C := RX7) (T := TX7) (N := 4) hx hb hts (fun _ h9 => List.mem_cons_of_mem _ (List.mem_append_right _ h9)) tyX7 tyX7_ok nmX7 hown hK hP hD hS 0 rfl rfl 2 (by decide) (hts (.fieldLink RX7 18 "SeatsRound$Rows" "length" "[I") (List.mem_of_getElem? (i := 7) rfl)) (fun _ h9 => h9) rfl hin rfl (tyX7_ok 2 (by decide)) rfl rfl (Nat.le_of_ble_eq_true rfl) dX7_init_25 (fun H locs hP hD hS => ?_)
  have hP : va_P (dC, dI) vwCl [(h0, .inr (7, [.ref q_1, .ref q_2, .ref q_3, .null])), (q_1, .inl (cy 0, 6, .inl (fun _ => 0))), (q_2, .inl (cy 0, 6, .inl (fun _ => 0))), (q_3, .inl (cy 0, 6, .inl (fun _ => 0)))] H := hP
  have hD : va_D A [(h0, .inr (7, [.ref q_1, .ref q_2, .ref q_3, .null])), (q_1, .inl (cy 0, 6, .inl (fun _ => 0))), (q_2, .inl (cy 0, 6, .inl (fun _ => 0))), (q_3, .inl (cy 0, 6, .inl (fun _ => 0)))] := hD
  refine lv_aload_n hx hb dX7_init_28 rfl (lv_at hl 0 rfl) ?_
  refine lv_bipush (v := 6) hx hb dX7_init_29 (by decide) ?_
  refine lv_bipush (v := 60) hx hb dX7_init_31 (by decide) ?_
  change W _ _ _ _ _ _ _ _ _ _ _ _ _ _ _ (F0 m 33 ls [.int 60, .int 6, .ref h0])
  refine vz_mna (t0 := 7) (t1 := 4) (N' := 6) (K' := 60) (z := (60, .inr (.inl (fun _ => 0)))) (ty := .long) hx hb hown (hts (.classLink RX7 21 "[[J") (List.mem_of_getElem? (i := 8) rfl)) hN.2.2.2.2 (hts (.arrayClass .long) (List.mem_of_getElem? (i := 9) rfl)) rfl (hK.2 4 _ rfl).2 hK hP hD hS hA (by decide) (by decide) rfl rfl (by decide) (by decide) (by decide) rfl rfl (Nat.le_of_ble_eq_true rfl) (Nat.le_of_ble_eq_true rfl) (fun _ => rfl) dX7_init_33 (fun q_4 r_5 H hP hD hS => ?_)
  have hP := wz_P0 hP
  have hD := wz_D0 hD
  have hP : va_P (dC, dI) vwCl (([(h0, .inr (7, [.ref q_1, .ref q_2, .ref q_3, .null])), (q_1, .inl (cy 0, 6, .inl (fun _ => 0))), (q_2, .inl (cy 0, 6, .inl (fun _ => 0))), (q_3, .inl (cy 0, 6, .inl (fun _ => 0))), (q_4, .inl (cy 7, 6, .inr (.inr (.inr (.inr (fun i => if i < 6 then some (r_5 i) else none))))))] : va_W) ++ ((List.range 6).map (fun i => ((r_5 i, .inl (cy 4, 60, .inr (.inl (fun _ => 0)))) : Nat × va_E)))) H := hP
  have hD : va_D A (([(h0, .inr (7, [.ref q_1, .ref q_2, .ref q_3, .null])), (q_1, .inl (cy 0, 6, .inl (fun _ => 0))), (q_2, .inl (cy 0, 6, .inl (fun _ => 0))), (q_3, .inl (cy 0, 6, .inl (fun _ => 0))), (q_4, .inl (cy 7, 6, .inr (.inr (.inr (.inr (fun i => if i < 6 then some (r_5 i) else none))))))] : va_W) ++ ((List.range 6).map (fun i => ((r_5 i, .inl (cy 4, 60, .inr (.inl (fun _ => 0)))) : Nat × va_E)))) := hD
  refine W.widen (k := 10) (n := 384) (Nat.le_of_ble_eq_true rfl) (Nat.le_of_ble_eq_true rfl) ?_
  refine va_putF (D := (dC, dI)) (ci := 7) (v := .ref q_4) (C := RX7) (T := TX7) (N := 4) hx hb hts (fun _ h9 => List.mem_cons_of_mem _ (List.mem_append_right _ h9)) tyX7 tyX7_ok nmX7 hown hK hP hD hS 0 rfl rfl 3 (by decide) (hts (.fieldLink RX7 23 "SeatsRound$Rows" "elements" "[[J") (List.mem_of_getElem? (i := 10) rfl)) (fun _ h9 => h9) rfl hin rfl (tyX7_ok 3 (by decide)) rfl rfl (Nat.le_of_ble_eq_true rfl) dX7_init_37 (fun H locs hP hD hS => ?_)
  have hP : va_P (dC, dI) vwCl (([(h0, .inr (7, [.ref q_1, .ref q_2, .ref q_3, .ref q_4])), (q_1, .inl (cy 0, 6, .inl (fun _ => 0))), (q_2, .inl (cy 0, 6, .inl (fun _ => 0))), (q_3, .inl (cy 0, 6, .inl (fun _ => 0))), (q_4, .inl (cy 7, 6, .inr (.inr (.inr (.inr (fun i => if i < 6 then some (r_5 i) else none))))))] : va_W) ++ ((List.range 6).map (fun i => ((r_5 i, .inl (cy 4, 60, .inr (.inl (fun _ => 0)))) : Nat × va_E)))) H := hP
  have hD : va_D A (([(h0, .inr (7, [.ref q_1, .ref q_2, .ref q_3, .ref q_4])), (q_1, .inl (cy 0, 6, .inl (fun _ => 0))), (q_2, .inl (cy 0, 6, .inl (fun _ => 0))), (q_3, .inl (cy 0, 6, .inl (fun _ => 0))), (q_4, .inl (cy 7, 6, .inr (.inr (.inr (.inr (fun i => if i < 6 then some (r_5 i) else none))))))] : va_W) ++ ((List.range 6).map (fun i => ((r_5 i, .inl (cy 4, 60, .inr (.inl (fun _ => 0)))) : Nat × va_E)))) := hD
  refine lv_aload_n hx hb dX7_init_40 rfl (lv_at hl 0 rfl) ?_
  refine va_get (D := (dC, dI)) (ci := 7) (v := .ref q_1) (C := RX7) (T := TX7) (N := 4) hx hb hts (fun _ h9 => List.mem_cons_of_mem _ (List.mem_append_right _ h9)) hown hK hP 0 rfl rfl 0 (by decide) (hts (.fieldLink RX7 9 "SeatsRound$Rows" "keeper" "[I") (List.mem_of_getElem? (i := 5) rfl)) (fun _ h9 => h9) rfl dX7_init_41 ?_
  refine lv_iconst (v := (-1)) hx hb dX7_init_44 (by decide) ?_
  have hPc := hP.sub (ws' := [(q_1, .inl (cy 0, 6, .inl (fun _ => 0)))]) [1] rfl
  have hDc := hD.sub (ws' := [(q_1, .inl (cy 0, 6, .inl (fun _ => 0)))]) [1] (by decide +kernel) rfl
  have hFc := va_free (wc := [(q_1, .inl (cy 0, 6, .inl (fun _ => 0)))]) hD hS hA [1] rfl
  refine va_callv (va_runS (As := [.ref q_1, .int (-1)]) (rest := []) ⟨hx, hb, hml, hown, hts⟩ (c_fill_int l dC dI cy q_1 6 (fun _ => 0) (-1) H.size (by decide)) (va_cwS 2 hts gX7_init_J7_fill_53178 rfl rfl rfl (by decide +kernel) ⟨Nat.le_of_ble_eq_true rfl, Nat.le_of_ble_eq_true rfl⟩) (wp_S hK hN hPc hDc) rfl rfl hl.1 rfl (lv_room (Nat.le_of_ble_eq_true rfl)) dX7_init_45 ⟨Nat.le_of_ble_eq_true rfl, Nat.le_of_ble_eq_true rfl⟩) hS (fun q _ h => hFc q h) hFc (fun u_6 t H1 locs ht hvm hw_6 hB hz1 hk1 hS => ?_)
  obtain ⟨hP1, hD1⟩ := hB
  rw [ht] at hP1
  obtain ⟨hP, hD⟩ := va_joinQ (wr := [(h0, .inr (7, [.ref q_1, .ref q_2, .ref q_3, .ref q_4])), (q_2, .inl (cy 0, 6, .inl (fun _ => 0))), (q_3, .inl (cy 0, 6, .inl (fun _ => 0))), (q_4, .inl (cy 7, 6, .inr (.inr (.inr (.inr (fun i => if i < 6 then some (r_5 i) else none))))))]) (w1 := [(q_1, .inl (cy 0, 6, .inl (fun _ => (-1))))]) hP hD [1] [0, 2, 3, 4] rfl rfl (by decide +kernel) (by decide +kernel) hk1 hFc hP1 hD1
  generalize H1 = H at hP hS ⊢
  have hP : va_P (dC, dI) vwCl (([(h0, .inr (7, [.ref q_1, .ref q_2, .ref q_3, .ref q_4])), (q_2, .inl (cy 0, 6, .inl (fun _ => 0))), (q_3, .inl (cy 0, 6, .inl (fun _ => 0))), (q_4, .inl (cy 7, 6, .inr (.inr (.inr (.inr (fun i => if i < 6 then some (r_5 i) else none)))))), (q_1, .inl (cy 0, 6, .inl (fun _ => (-1))))] : va_W) ++ ((List.range 6).map (fun i => ((r_5 i, .inl (cy 4, 60, .inr (.inl (fun _ => 0)))) : Nat × va_E)))) H := hP
  have hD : va_D A (([(h0, .inr (7, [.ref q_1, .ref q_2, .ref q_3, .ref q_4])), (q_2, .inl (cy 0, 6, .inl (fun _ => 0))), (q_3, .inl (cy 0, 6, .inl (fun _ => 0))), (q_4, .inl (cy 7, 6, .inr (.inr (.inr (.inr (fun i => if i < 6 then some (r_5 i) else none)))))), (q_1, .inl (cy 0, 6, .inl (fun _ => (-1))))] : va_W) ++ ((List.range 6).map (fun i => ((r_5 i, .inl (cy 4, 60, .inr (.inl (fun _ => 0)))) : Nat × va_E)))) := hD
  refine lv_aload_n hx hb dX7_init_48 rfl (lv_at hl 0 rfl) ?_
  refine va_get (D := (dC, dI)) (ci := 7) (v := .ref q_2) (C := RX7) (T := TX7) (N := 4) hx hb hts (fun _ h9 => List.mem_cons_of_mem _ (List.mem_append_right _ h9)) hown hK hP 0 rfl rfl 1 (by decide) (hts (.fieldLink RX7 15 "SeatsRound$Rows" "sort" "[I") (List.mem_of_getElem? (i := 6) rfl)) (fun _ h9 => h9) rfl dX7_init_49 ?_
  change W _ _ _ _ _ _ _ _ _ _ _ _ _ _ _ (F0 m 52 ls [.ref q_2])
  refine lv_iconst (v := (-1)) hx hb dX7_init_52 (by decide) ?_
  have hPc := hP.sub (ws' := [(q_2, .inl (cy 0, 6, .inl (fun _ => 0)))]) [1] rfl
  have hDc := hD.sub (ws' := [(q_2, .inl (cy 0, 6, .inl (fun _ => 0)))]) [1] (by decide +kernel) rfl
  have hFc := va_free (wc := [(q_2, .inl (cy 0, 6, .inl (fun _ => 0)))]) hD hS hA [1] rfl
  refine va_callv (va_runS (As := [.ref q_2, .int (-1)]) (rest := []) ⟨hx, hb, hml, hown, hts⟩ (c_fill_int l dC dI cy q_2 6 (fun _ => 0) (-1) H.size (by decide)) (va_cwS 2 hts gX7_init_J7_fill_53178 rfl rfl rfl (by decide +kernel) ⟨Nat.le_of_ble_eq_true rfl, Nat.le_of_ble_eq_true rfl⟩) (wp_S hK hN hPc hDc) rfl rfl hl.1 rfl (lv_room (Nat.le_of_ble_eq_true rfl)) dX7_init_53 ⟨Nat.le_of_ble_eq_true rfl, Nat.le_of_ble_eq_true rfl⟩) hS (fun q _ h => hFc q h) hFc (fun u_7 t H1 locs ht hvm hw_7 hB hz1 hk1 hS => ?_)
  obtain ⟨hP1, hD1⟩ := hB
  rw [ht] at hP1
  obtain ⟨hP, hD⟩ := va_joinQ (wr := [(h0, .inr (7, [.ref q_1, .ref q_2, .ref q_3, .ref q_4])), (q_3, .inl (cy 0, 6, .inl (fun _ => 0))), (q_4, .inl (cy 7, 6, .inr (.inr (.inr (.inr (fun i => if i < 6 then some (r_5 i) else none)))))), (q_1, .inl (cy 0, 6, .inl (fun _ => (-1))))]) (w1 := [(q_2, .inl (cy 0, 6, .inl (fun _ => (-1))))]) hP hD [1] [0, 2, 3, 4] rfl rfl (by decide +kernel) (by decide +kernel) hk1 hFc hP1 hD1
  generalize H1 = H at hP hS ⊢
  have hP : va_P (dC, dI) vwCl (([(h0, .inr (7, [.ref q_1, .ref q_2, .ref q_3, .ref q_4])), (q_3, .inl (cy 0, 6, .inl (fun _ => 0))), (q_4, .inl (cy 7, 6, .inr (.inr (.inr (.inr (fun i => if i < 6 then some (r_5 i) else none)))))), (q_1, .inl (cy 0, 6, .inl (fun _ => (-1)))), (q_2, .inl (cy 0, 6, .inl (fun _ => (-1))))] : va_W) ++ ((List.range 6).map (fun i => ((r_5 i, .inl (cy 4, 60, .inr (.inl (fun _ => 0)))) : Nat × va_E)))) H := hP
  have hD : va_D A (([(h0, .inr (7, [.ref q_1, .ref q_2, .ref q_3, .ref q_4])), (q_3, .inl (cy 0, 6, .inl (fun _ => 0))), (q_4, .inl (cy 7, 6, .inr (.inr (.inr (.inr (fun i => if i < 6 then some (r_5 i) else none)))))), (q_1, .inl (cy 0, 6, .inl (fun _ => (-1)))), (q_2, .inl (cy 0, 6, .inl (fun _ => (-1))))] : va_W) ++ ((List.range 6).map (fun i => ((r_5 i, .inl (cy 4, 60, .inr (.inl (fun _ => 0)))) : Nat × va_E)))) := hD
  exact W.vret hx hb hr (fun t ht hW => ⟨⟨(fun k => [(fun j => [q_1, q_2, q_3, q_4].getD j 0), r_5].getD k (fun _ => 0)), rfl, trivial, ⟨by rw [ht]; exact hP, hD⟩⟩, hS.F ht⟩) hS.2.2 dX7_init_56
set_option maxHeartbeats 4000000 in
set_option maxRecDepth 100000 in
theorem i_SR (l : Launch) (dC : Nat → ClassId) (dI : Nat → Nat → Nat) (cy : Nat → ClassId) (h0 : Nat) (sz : Nat)  : Met l yX11_init wsX11_init ({ frames := 3, cells := 187, slots := 7006, locals := 66 }) (va_Pc [.ref h0] (wPre (dC, dI) cy [(h0, .inr (11, [.null, .null, .null, .null, .null, .null, .int 0, .null, .null, .null, .null, .null, .null]))] sz)) (va_Qv (fun (u : (Nat → Nat) × (Nat → Nat → Nat → Nat)) => True) (fun (u : (Nat → Nat) × (Nat → Nat → Nat → Nat)) t => wAt (dC, dI) (va_A [(h0, .inr (11, [.null, .null, .null, .null, .null, .null, .int 0, .null, .null, .null, .null, .null, .null]))] sz) (([(h0, .inr (11, [.ref (u.1 0), .ref (u.1 1), .ref (u.1 2), .ref (u.1 3), .ref (u.1 4), .ref (u.1 5), .int 0, .ref (u.1 6), .ref (u.1 7), .ref (u.1 8), .ref (u.1 9), .ref (u.1 10), .ref (u.1 11)])), ((u.1 5), .inl (cy 8, 10, .inr (.inr (.inr (.inr (fun _ => none))))))] : va_W) ++ ((([((u.1 11), .inr (7, [.ref (u.2 0 0 0), .ref (u.2 0 0 1), .ref (u.2 0 0 2), .ref (u.2 0 0 3)])), ((u.2 0 0 2), .inl (cy 0, 6, .inl (fun _ => 0))), ((u.2 0 0 3), .inl (cy 7, 6, .inr (.inr (.inr (.inr (fun i => if i < 6 then some ((u.2 0 1) i) else none)))))), ((u.2 0 0 0), .inl (cy 0, 6, .inl (fun _ => (-1)))), ((u.2 0 0 1), .inl (cy 0, 6, .inl (fun _ => (-1))))] : va_W) ++ ((List.range 6).map (fun i => (((u.2 0 1) i, .inl (cy 4, 60, .inr (.inl (fun _ => 0)))) : Nat × va_E)))) ++ (([((u.1 10), .inr (0, [.ref (u.2 1 0 0), .int 0, .int 0, .int 0, .int 0])), ((u.2 1 0 0), .inl (cy 0, 24, .inl (fun _ => 0)))] : va_W) ++ (([((u.1 9), .inr (10, [.ref (u.2 2 0 0), .int 0, .int (-1), .ref (u.2 2 0 1), .ref (u.1 1)])), ((u.2 2 0 0), .inl (cy 0, 6, .inl (fun _ => 0))), ((u.2 2 0 1), .inl (cy 0, 12, .inl (fun _ => 0)))] : va_W) ++ ((([((u.1 8), .inr (5, [.ref (u.2 3 0 0), .int 0, .ref (u.2 3 0 1), .int 0, .ref (u.2 3 0 2), .ref (u.2 3 0 3), .ref (u.1 2), .ref (u.1 1), .ref (u.1 4), .ref (u.1 3)])), ((u.2 3 0 0), .inl (cy 0, 5, .inl (fun _ => 0))), ((u.2 3 0 1), .inl (cy 0, 5, .inl (fun _ => 0))), ((u.2 3 0 2), .inl (cy 6, 32, .inr (.inr (.inr (.inr (fun i => if i < 32 then some ((u.2 3 1) i) else none)))))), ((u.2 3 0 3), .inl (cy 0, 32, .inl (fun _ => 0)))] : va_W) ++ ((List.range 32).map (fun i => (((u.2 3 1) i, .inl (cy 0, 40, .inl (fun _ => 0))) : Nat × va_E)))) ++ ((([((u.1 7), .inr (6, [.ref (u.2 4 0 0), .ref (u.2 4 0 1), .ref (u.2 4 0 2), .ref (u.2 4 0 3), .ref (u.2 4 0 4), .ref (u.2 4 0 5), .ref (u.2 4 0 6), .ref (u.2 4 0 7), .int 0, .ref (u.1 2), .ref (u.1 1), .ref (u.1 4)])), ((u.2 4 0 0), .inl (cy 6, 12, .inr (.inr (.inr (.inr (fun i => if i < 12 then some ((u.2 4 5) i) else none)))))), ((u.2 4 0 1), .inl (cy 6, 12, .inr (.inr (.inr (.inr (fun i => if i < 12 then some ((u.2 4 4) i) else none)))))), ((u.2 4 0 2), .inl (cy 6, 12, .inr (.inr (.inr (.inr (fun i => if i < 12 then some ((u.2 4 3) i) else none)))))), ((u.2 4 0 3), .inl (cy 6, 12, .inr (.inr (.inr (.inr (fun i => if i < 12 then some ((u.2 4 2) i) else none)))))), ((u.2 4 0 4), .inl (cy 6, 12, .inr (.inr (.inr (.inr (fun i => if i < 12 then some ((u.2 4 1) i) else none)))))), ((u.2 4 0 5), .inl (cy 0, 40, .inl (fun _ => 0))), ((u.2 4 0 6), .inl (cy 0, 16, .inl (fun _ => 0))), ((u.2 4 0 7), .inl (cy 0, 16, .inl (fun _ => 0)))] : va_W) ++ (((List.range 12).map (fun i => (((u.2 4 1) i, .inl (cy 0, 40, .inl (fun _ => 0))) : Nat × va_E))) ++ (((List.range 12).map (fun i => (((u.2 4 2) i, .inl (cy 0, 40, .inl (fun _ => 0))) : Nat × va_E))) ++ (((List.range 12).map (fun i => (((u.2 4 3) i, .inl (cy 0, 40, .inl (fun _ => 0))) : Nat × va_E))) ++ (((List.range 12).map (fun i => (((u.2 4 4) i, .inl (cy 0, 40, .inl (fun _ => 0))) : Nat × va_E))) ++ ((List.range 12).map (fun i => (((u.2 4 5) i, .inl (cy 0, 40, .inl (fun _ => 0))) : Nat × va_E)))))))) ++ (([((u.1 6), .inr (8, [.int 0, .int 0, .int 1, .int 1, .int 0, .int 0, .int 0, .int 0, .ref (u.2 5 0 0), .ref (u.2 5 0 1), .ref (u.2 5 0 2), .ref (u.2 5 0 3), .ref (u.2 5 0 4)])), ((u.2 5 0 0), .inl (cy 0, 12, .inl (fun _ => 0))), ((u.2 5 0 1), .inl (cy 0, 12, .inl (fun _ => 0))), ((u.2 5 0 2), .inl (cy 1, 80, .inl (fun _ => 0))), ((u.2 5 0 3), .inl (cy 1, 1000, .inl (fun _ => 0))), ((u.2 5 0 4), .inl (cy 3, 1000, .inl (fun _ => 0)))] : va_W) ++ (([((u.1 4), .inr (1, [.ref (u.2 6 0 0), .ref (u.2 6 0 1), .int 0, .int 0, .int 0, .int 0, .int 0, .ref (u.2 6 0 2), .ref (u.1 2)])), ((u.2 6 0 0), .inl (cy 0, 12, .inl (fun _ => 0))), ((u.2 6 0 1), .inl (cy 0, 12, .inl (fun _ => 0))), ((u.2 6 0 2), .inl (cy 0, 12, .inl (fun _ => 0)))] : va_W) ++ (([((u.1 3), .inr (3, [.ref (u.2 7 0 0), .int 0, .int 0, .int (-1), .int 0, .int 0, .int 0, .int 0])), ((u.2 7 0 0), .inl (cy 1, 0, .inl (fun _ => 0)))] : va_W) ++ (([((u.1 2), .inr (2, [.ref (u.2 8 0 0), .ref (u.2 8 0 1), .ref (u.2 8 0 2), .ref (u.2 8 0 3), .ref (u.2 8 0 4), .int 0])), ((u.2 8 0 0), .inl (cy 0, 12, .inl (fun _ => 0))), ((u.2 8 0 1), .inl (cy 0, 12, .inl (fun _ => 0))), ((u.2 8 0 2), .inl (cy 0, 12, .inl (fun _ => 0))), ((u.2 8 0 3), .inl (cy 0, 12, .inl (fun _ => 0))), ((u.2 8 0 4), .inl (cy 2, 12, .inl (fun _ => 0)))] : va_W) ++ ((([((u.1 1), .inr (4, [.ref (u.2 9 0 0), .ref (u.2 9 0 1), .ref (u.2 9 0 2), .int 0])), ((u.2 9 0 0), .inl (cy 5, 40, .inr (.inr (.inr (.inr (fun i => if i < 40 then some ((u.2 9 1) i) else none)))))), ((u.2 9 0 1), .inl (cy 0, 40, .inl (fun _ => 0))), ((u.2 9 0 2), .inl (cy 1, 6, .inl (fun _ => 0)))] : va_W) ++ ((List.range 40).map (fun i => (((u.2 9 1) i, .inl (cy 1, 6, .inl (fun _ => 0))) : Nat × va_E)))) ++ ([((u.1 0), .inr (9, [.ref (u.2 10 0 0), .int 0])), ((u.2 10 0 0), .inl (cy 1, 80, .inl (fun _ => 0)))] : va_W)))))))))))) t) (va_A [(h0, .inr (11, [.null, .null, .null, .null, .null, .null, .int 0, .null, .null, .null, .null, .null, .null]))] sz)) 187 7006 (va_A [(h0, .inr (11, [.null, .null, .null, .null, .null, .null, .int 0, .null, .null, .null, .null, .null, .null]))] sz) := by
  refine Met.ofW (cc := cX11_init) (maxL := 1) (ret := none) (by decide) rfl ?_
  intro p e s m args below meth c s₁ B hml hv
  obtain ⟨rfl, hsz, hP, hK, hD0, hN⟩ := hv
  have hx := B.exec
  have hb := B.bytes
  have hr := B.returns
  have hts := atoms_spec (ws := wsX11_init) B.pre
  have hown : s.vm.findClass RX11 = some m.cls := findClass_of_methodNamed B.named
  have hlocks := B.notSynchronized
  subst hsz
  have hin : meth.name = "<init>" := (name_of_methodNamed B.named B.method).1
  have hD := hD0.self (sz := s.heap.size)
  generalize hAe : va_A [(h0, .inr (11, [.null, .null, .null, .null, .null, .null, .int 0, .null, .null, .null, .null, .null, .null]))] s.heap.size = A at hD ⊢
  have hA : ∀ q : Nat, s.heap.size ≤ q → A q := fun q h => by rw [← hAe]; exact Or.inr h
  have hS : va_S A s.heap s.heap [] := va_S.rf
  have hl := lv_entry ([.ref h0]) (n := 1) (Nat.le_of_ble_eq_true rfl)
  rw [lg_entry_eq]
  generalize (lg_sl ([.ref h0]) ++ List.replicate (1 - (lg_sl ([.ref h0])).length) Slot.unset).toArray = ls at hl ⊢
  have hl : lv_has ls 1 [(0, .ref h0)] := hl
  refine lv_aload_n hx hb dX11_init_0 rfl (lv_at hl 0 rfl) ?_
  refine W.objInit hx hb hown (hts (.methodLink RX11 1 objectInit) (List.mem_of_getElem? (i := 1) rfl)) (hts (.instanceMethod objectInit) (List.mem_of_getElem? (i := 2) rfl)) (hts (.code objectInit ⟨#[0xb1]⟩ 1 none) (List.mem_of_getElem? (i := 3) rfl)) rfl (hl.1.trans hml.symm) rfl dX11_init_1 (Nat.le_of_ble_eq_true rfl) (Nat.le_of_ble_eq_true rfl) ?_
  refine lv_aload_n hx hb dX11_init_4 rfl (lv_at hl 0 rfl) ?_
  refine va_new (ci := 9) (fs := [.null, .int 0]) (C := RX9) (T := TX9) (N := 2) hx hb hts (fun _ h9 => List.mem_cons_of_mem _ (List.mem_append_left _ (List.mem_append_left _ (List.mem_append_left _ (List.mem_append_left _ (List.mem_append_left _ (List.mem_append_left _ (List.mem_append_left _ (List.mem_append_left _ (List.mem_append_left _ (List.mem_append_left _ (List.mem_append_left _ (List.mem_append_right _ h9))))))))))))) tyX9 tyX9_ok hown (hts (.classLink RX11 7 RX9) (List.mem_of_getElem? (i := 4) rfl)) (hts (.instantiable RX9 2) (List.mem_of_getElem? (i := 5) rfl)) (hts (.initialized RX9) (List.mem_of_getElem? (i := 6) rfl)) hK hP hD hS hA rfl (fun j hj => vz_dfX9 j hj) (Nat.le_of_ble_eq_true rfl) (Nat.le_of_ble_eq_true rfl) dX11_init_5 (fun q_1 H hP hD hS => ?_)
  have hP : va_P (dC, dI) vwCl [(h0, .inr (11, [.null, .null, .null, .null, .null, .null, .int 0, .null, .null, .null, .null, .null, .null])), (q_1, .inr (9, [.null, .int 0]))] H := hP
  have hD : va_D A [(h0, .inr (11, [.null, .null, .null, .null, .null, .null, .int 0, .null, .null, .null, .null, .null, .null])), (q_1, .inr (9, [.null, .int 0]))] := hD
  refine W.widen (k := 1) (n := 2) (Nat.le_of_ble_eq_true rfl) (Nat.le_of_ble_eq_true rfl) ?_
  change W _ _ _ _ _ _ _ _ _ _ _ _ _ _ _ (F0 m 8 ls [.ref q_1, .ref h0])
  refine lv_dup hx hb dX11_init_8 rfl ?_
  have hPc := hP.sub (ws' := [(q_1, .inr (9, [.null, .int 0]))]) [1] rfl
  have hDc := hD.sub (ws' := [(q_1, .inr (9, [.null, .int 0]))]) [1] (by decide +kernel) rfl
  have hFc := va_free (wc := [(q_1, .inr (9, [.null, .int 0]))]) hD hS hA [1] rfl
  refine va_callv (va_runIN (As := []) (rest := [.ref q_1, .ref h0]) ⟨hx, hb, hml, hown, hts⟩ (i_Tape l dC dI cy q_1 H.size) ⟨va_cnB 0 hts gX11_init_X9_init_n9 rfl rfl rfl (hN.1 _ (List.mem_of_getElem? (i := 0) rfl)) (hts (.initialized RX9) (List.mem_of_getElem? (i := 6) rfl)) (by decide +kernel) ⟨Nat.le_of_ble_eq_true rfl, Nat.le_of_ble_eq_true rfl⟩, rfl, (hts (.instanceMethod yX9_init) (List.mem_of_getElem? (i := 50) rfl))⟩ (wp_S hK hN hPc hDc) rfl rfl hl.1 rfl (lv_room (Nat.le_of_ble_eq_true rfl)) dX11_init_9 ⟨Nat.le_of_ble_eq_true rfl, Nat.le_of_ble_eq_true rfl⟩) hS (fun q _ h => hFc q h) hFc (fun u_2 t H1 locs ht hvm hw_2 hB hz1 hk1 hS => ?_)
  obtain ⟨hP1, hD1⟩ := hB
  rw [ht] at hP1
  obtain ⟨hP, hD⟩ := va_join (wr := [(h0, .inr (11, [.null, .null, .null, .null, .null, .null, .int 0, .null, .null, .null, .null, .null, .null]))]) (w1 := [(q_1, .inr (9, [.ref (u_2 0 0), .int 0])), ((u_2 0 0), .inl (cy 1, 80, .inl (fun _ => 0)))]) hP hD [1] [0] rfl rfl (by decide +kernel) (by decide +kernel) hk1 hFc hP1 hD1
  obtain ⟨pl_3, epl_3⟩ : ∃ x : va_W, x = ([(q_1, .inr (9, [.ref (u_2 0 0), .int 0])), ((u_2 0 0), .inl (cy 1, 80, .inl (fun _ => 0)))] : va_W) := ⟨_, rfl⟩
  rw [← epl_3] at hP hD
  generalize H1 = H at hP hS ⊢
  have hP : va_P (dC, dI) vwCl (([(h0, .inr (11, [.null, .null, .null, .null, .null, .null, .int 0, .null, .null, .null, .null, .null, .null]))] : va_W) ++ pl_3) H := hP
  have hD : va_D A (([(h0, .inr (11, [.null, .null, .null, .null, .null, .null, .int 0, .null, .null, .null, .null, .null, .null]))] : va_W) ++ pl_3) := hD
  refine W.widen (k := 2) (n := 82) (Nat.le_of_ble_eq_true rfl) (Nat.le_of_ble_eq_true rfl) ?_
  refine va_putF (D := (dC, dI)) (ci := 11) (v := .ref q_1) (C := RX11) (T := TX11) (N := 13) hx hb hts (fun _ h9 => List.mem_cons_of_mem _ (List.mem_append_left _ (List.mem_append_left _ (List.mem_append_left _ (List.mem_append_left _ (List.mem_append_left _ (List.mem_append_left _ (List.mem_append_left _ (List.mem_append_left _ (List.mem_append_left _ (List.mem_append_left _ (List.mem_append_right _ h9)))))))))))) tyX11 tyX11_ok nmX11 hown hK hP hD hS 0 rfl rfl 0 (by decide) (hts (.fieldLink RX11 10 "SeatsRound" "tape" "LSeatsRound$Tape;") (List.mem_of_getElem? (i := 7) rfl)) (fun _ h9 => h9) rfl hin rfl (tyX11_ok 0 (by decide)) rfl rfl (Nat.le_of_ble_eq_true rfl) dX11_init_12 (fun H locs hP hD hS => ?_)
  have hP : va_P (dC, dI) vwCl (([(h0, .inr (11, [.ref q_1, .null, .null, .null, .null, .null, .int 0, .null, .null, .null, .null, .null, .null]))] : va_W) ++ pl_3) H := hP
  have hD : va_D A (([(h0, .inr (11, [.ref q_1, .null, .null, .null, .null, .null, .int 0, .null, .null, .null, .null, .null, .null]))] : va_W) ++ pl_3) := hD
  refine lv_aload_n hx hb dX11_init_15 rfl (lv_at hl 0 rfl) ?_
  refine va_new (ci := 4) (fs := [.null, .null, .null, .int 0]) (C := RX4) (T := TX4) (N := 4) hx hb hts (fun _ h9 => List.mem_cons_of_mem _ (List.mem_append_left _ (List.mem_append_left _ (List.mem_append_left _ (List.mem_append_left _ (List.mem_append_left _ (List.mem_append_left _ (List.mem_append_left _ (List.mem_append_left _ (List.mem_append_left _ (List.mem_append_right _ h9))))))))))) tyX4 tyX4_ok hown (hts (.classLink RX11 16 RX4) (List.mem_of_getElem? (i := 8) rfl)) (hts (.instantiable RX4 4) (List.mem_of_getElem? (i := 9) rfl)) (hts (.initialized RX4) (List.mem_of_getElem? (i := 10) rfl)) hK hP hD hS hA rfl (fun j hj => vz_dfX4 j hj) (Nat.le_of_ble_eq_true rfl) (Nat.le_of_ble_eq_true rfl) dX11_init_16 (fun q_4 H hP hD hS => ?_)
  have hP := va_P.swap hP
  have hD := va_D.swap hD
  have hP : va_P (dC, dI) vwCl (([(h0, .inr (11, [.ref q_1, .null, .null, .null, .null, .null, .int 0, .null, .null, .null, .null, .null, .null])), (q_4, .inr (4, [.null, .null, .null, .int 0]))] : va_W) ++ pl_3) H := hP
  have hD : va_D A (([(h0, .inr (11, [.ref q_1, .null, .null, .null, .null, .null, .int 0, .null, .null, .null, .null, .null, .null])), (q_4, .inr (4, [.null, .null, .null, .int 0]))] : va_W) ++ pl_3) := hD
  refine W.widen (k := 3) (n := 86) (Nat.le_of_ble_eq_true rfl) (Nat.le_of_ble_eq_true rfl) ?_
  refine lv_dup hx hb dX11_init_19 rfl ?_
  have hPc := hP.sub (ws' := [(q_4, .inr (4, [.null, .null, .null, .int 0]))]) [1] rfl
  have hDc := hD.sub (ws' := [(q_4, .inr (4, [.null, .null, .null, .int 0]))]) [1] (by decide +kernel) rfl
  have hFc := va_free (wc := [(q_4, .inr (4, [.null, .null, .null, .int 0]))]) hD hS hA [1] rfl
  refine va_callv (va_runIN (As := []) (rest := [.ref q_4, .ref h0]) ⟨hx, hb, hml, hown, hts⟩ (i_NameList l dC dI cy q_4 H.size) ⟨va_cnB 0 hts gX11_init_X4_init_n18 rfl rfl rfl (hN.1 _ (List.mem_of_getElem? (i := 1) rfl)) (hts (.initialized RX4) (List.mem_of_getElem? (i := 10) rfl)) (by decide +kernel) ⟨Nat.le_of_ble_eq_true rfl, Nat.le_of_ble_eq_true rfl⟩, rfl, (hts (.instanceMethod yX4_init) (List.mem_of_getElem? (i := 56) rfl))⟩ (wp_S hK hN hPc hDc) rfl rfl hl.1 rfl (lv_room (Nat.le_of_ble_eq_true rfl)) dX11_init_20 ⟨Nat.le_of_ble_eq_true rfl, Nat.le_of_ble_eq_true rfl⟩) hS (fun q _ h => hFc q h) hFc (fun u_5 t H1 locs ht hvm hw_5 hB hz1 hk1 hS => ?_)
  obtain ⟨hP1, hD1⟩ := hB
  rw [ht] at hP1
  obtain ⟨hP, hD⟩ := va_joinQ (wr := [(h0, .inr (11, [.ref q_1, .null, .null, .null, .null, .null, .int 0, .null, .null, .null, .null, .null, .null]))]) (w1 := (([(q_4, .inr (4, [.ref (u_5 0 0), .ref (u_5 0 1), .ref (u_5 0 2), .int 0])), ((u_5 0 0), .inl (cy 5, 40, .inr (.inr (.inr (.inr (fun i => if i < 40 then some ((u_5 1) i) else none)))))), ((u_5 0 1), .inl (cy 0, 40, .inl (fun _ => 0))), ((u_5 0 2), .inl (cy 1, 6, .inl (fun _ => 0)))] : va_W) ++ ((List.range 40).map (fun i => (((u_5 1) i, .inl (cy 1, 6, .inl (fun _ => 0))) : Nat × va_E))))) hP hD [1] [0] rfl rfl (by decide +kernel) (by decide +kernel) hk1 hFc hP1 hD1
  have hP := wz_KP hP
  have hD := wz_KD hD
  obtain ⟨pl_6, epl_6⟩ : ∃ x : va_W, x = ((([(q_4, .inr (4, [.ref (u_5 0 0), .ref (u_5 0 1), .ref (u_5 0 2), .int 0])), ((u_5 0 0), .inl (cy 5, 40, .inr (.inr (.inr (.inr (fun i => if i < 40 then some ((u_5 1) i) else none)))))), ((u_5 0 1), .inl (cy 0, 40, .inl (fun _ => 0))), ((u_5 0 2), .inl (cy 1, 6, .inl (fun _ => 0)))] : va_W) ++ ((List.range 40).map (fun i => (((u_5 1) i, .inl (cy 1, 6, .inl (fun _ => 0))) : Nat × va_E)))) ++ pl_3) := ⟨_, rfl⟩
  rw [← epl_6] at hP hD
  generalize H1 = H at hP hS ⊢
  have hP : va_P (dC, dI) vwCl (([(h0, .inr (11, [.ref q_1, .null, .null, .null, .null, .null, .int 0, .null, .null, .null, .null, .null, .null]))] : va_W) ++ pl_6) H := hP
  have hD : va_D A (([(h0, .inr (11, [.ref q_1, .null, .null, .null, .null, .null, .int 0, .null, .null, .null, .null, .null, .null]))] : va_W) ++ pl_6) := hD
  refine W.widen (k := 46) (n := 412) (Nat.le_of_ble_eq_true rfl) (Nat.le_of_ble_eq_true rfl) ?_
  refine va_putF (D := (dC, dI)) (ci := 11) (v := .ref q_4) (C := RX11) (T := TX11) (N := 13) hx hb hts (fun _ h9 => List.mem_cons_of_mem _ (List.mem_append_left _ (List.mem_append_left _ (List.mem_append_left _ (List.mem_append_left _ (List.mem_append_left _ (List.mem_append_left _ (List.mem_append_left _ (List.mem_append_left _ (List.mem_append_left _ (List.mem_append_left _ (List.mem_append_right _ h9)))))))))))) tyX11 tyX11_ok nmX11 hown hK hP hD hS 0 rfl rfl 1 (by decide) (hts (.fieldLink RX11 19 "SeatsRound" "nameList" "LSeatsRound$NameList;") (List.mem_of_getElem? (i := 11) rfl)) (fun _ h9 => h9) rfl hin rfl (tyX11_ok 1 (by decide)) rfl rfl (Nat.le_of_ble_eq_true rfl) dX11_init_23 (fun H locs hP hD hS => ?_)
  have hP : va_P (dC, dI) vwCl (([(h0, .inr (11, [.ref q_1, .ref q_4, .null, .null, .null, .null, .int 0, .null, .null, .null, .null, .null, .null]))] : va_W) ++ pl_6) H := hP
  have hD : va_D A (([(h0, .inr (11, [.ref q_1, .ref q_4, .null, .null, .null, .null, .int 0, .null, .null, .null, .null, .null, .null]))] : va_W) ++ pl_6) := hD
  change W _ _ _ _ _ _ _ _ _ _ _ _ _ _ _ (F0 m 26 ls [])
  refine lv_aload_n hx hb dX11_init_26 rfl (lv_at hl 0 rfl) ?_
  refine va_new (ci := 2) (fs := [.null, .null, .null, .null, .null, .int 0]) (C := RX2) (T := TX2) (N := 6) hx hb hts (fun _ h9 => List.mem_cons_of_mem _ (List.mem_append_left _ (List.mem_append_left _ (List.mem_append_left _ (List.mem_append_left _ (List.mem_append_left _ (List.mem_append_left _ (List.mem_append_left _ (List.mem_append_left _ (List.mem_append_right _ h9)))))))))) tyX2 tyX2_ok hown (hts (.classLink RX11 23 RX2) (List.mem_of_getElem? (i := 12) rfl)) (hts (.instantiable RX2 6) (List.mem_of_getElem? (i := 13) rfl)) (hts (.initialized RX2) (List.mem_of_getElem? (i := 14) rfl)) hK hP hD hS hA rfl (fun j hj => vz_dfX2 j hj) (Nat.le_of_ble_eq_true rfl) (Nat.le_of_ble_eq_true rfl) dX11_init_27 (fun q_7 H hP hD hS => ?_)
  have hP := va_P.swap hP
  have hD := va_D.swap hD
  have hP : va_P (dC, dI) vwCl (([(h0, .inr (11, [.ref q_1, .ref q_4, .null, .null, .null, .null, .int 0, .null, .null, .null, .null, .null, .null])), (q_7, .inr (2, [.null, .null, .null, .null, .null, .int 0]))] : va_W) ++ pl_6) H := hP
  have hD : va_D A (([(h0, .inr (11, [.ref q_1, .ref q_4, .null, .null, .null, .null, .int 0, .null, .null, .null, .null, .null, .null])), (q_7, .inr (2, [.null, .null, .null, .null, .null, .int 0]))] : va_W) ++ pl_6) := hD
  refine W.widen (k := 47) (n := 418) (Nat.le_of_ble_eq_true rfl) (Nat.le_of_ble_eq_true rfl) ?_
  refine lv_dup hx hb dX11_init_30 rfl ?_
  have hPc := hP.sub (ws' := [(q_7, .inr (2, [.null, .null, .null, .null, .null, .int 0]))]) [1] rfl
  have hDc := hD.sub (ws' := [(q_7, .inr (2, [.null, .null, .null, .null, .null, .int 0]))]) [1] (by decide +kernel) rfl
  have hFc := va_free (wc := [(q_7, .inr (2, [.null, .null, .null, .null, .null, .int 0]))]) hD hS hA [1] rfl
  refine va_callv (va_runIN (As := []) (rest := [.ref q_7, .ref h0]) ⟨hx, hb, hml, hown, hts⟩ (i_Keepers l dC dI cy q_7 H.size) ⟨va_cnB 0 hts gX11_init_X2_init_n25 rfl rfl rfl (hN.1 _ (List.mem_of_getElem? (i := 2) rfl)) (hts (.initialized RX2) (List.mem_of_getElem? (i := 14) rfl)) (by decide +kernel) ⟨Nat.le_of_ble_eq_true rfl, Nat.le_of_ble_eq_true rfl⟩, rfl, (hts (.instanceMethod yX2_init) (List.mem_of_getElem? (i := 65) rfl))⟩ (wp_S hK hN hPc hDc) rfl rfl hl.1 rfl (lv_room (Nat.le_of_ble_eq_true rfl)) dX11_init_31 ⟨Nat.le_of_ble_eq_true rfl, Nat.le_of_ble_eq_true rfl⟩) hS (fun q _ h => hFc q h) hFc (fun u_8 t H1 locs ht hvm hw_8 hB hz1 hk1 hS => ?_)
  obtain ⟨hP1, hD1⟩ := hB
  rw [ht] at hP1
  obtain ⟨hP, hD⟩ := va_joinQ (wr := [(h0, .inr (11, [.ref q_1, .ref q_4, .null, .null, .null, .null, .int 0, .null, .null, .null, .null, .null, .null]))]) (w1 := [(q_7, .inr (2, [.ref (u_8 0 0), .ref (u_8 0 1), .ref (u_8 0 2), .ref (u_8 0 3), .ref (u_8 0 4), .int 0])), ((u_8 0 0), .inl (cy 0, 12, .inl (fun _ => 0))), ((u_8 0 1), .inl (cy 0, 12, .inl (fun _ => 0))), ((u_8 0 2), .inl (cy 0, 12, .inl (fun _ => 0))), ((u_8 0 3), .inl (cy 0, 12, .inl (fun _ => 0))), ((u_8 0 4), .inl (cy 2, 12, .inl (fun _ => 0)))]) hP hD [1] [0] rfl rfl (by decide +kernel) (by decide +kernel) hk1 hFc hP1 hD1
  have hP := wz_KP hP
  have hD := wz_KD hD
  obtain ⟨pl_9, epl_9⟩ : ∃ x : va_W, x = (([(q_7, .inr (2, [.ref (u_8 0 0), .ref (u_8 0 1), .ref (u_8 0 2), .ref (u_8 0 3), .ref (u_8 0 4), .int 0])), ((u_8 0 0), .inl (cy 0, 12, .inl (fun _ => 0))), ((u_8 0 1), .inl (cy 0, 12, .inl (fun _ => 0))), ((u_8 0 2), .inl (cy 0, 12, .inl (fun _ => 0))), ((u_8 0 3), .inl (cy 0, 12, .inl (fun _ => 0))), ((u_8 0 4), .inl (cy 2, 12, .inl (fun _ => 0)))] : va_W) ++ pl_6) := ⟨_, rfl⟩
  rw [← epl_9] at hP hD
  generalize H1 = H at hP hS ⊢
  have hP : va_P (dC, dI) vwCl (([(h0, .inr (11, [.ref q_1, .ref q_4, .null, .null, .null, .null, .int 0, .null, .null, .null, .null, .null, .null]))] : va_W) ++ pl_9) H := hP
  have hD : va_D A (([(h0, .inr (11, [.ref q_1, .ref q_4, .null, .null, .null, .null, .int 0, .null, .null, .null, .null, .null, .null]))] : va_W) ++ pl_9) := hD
  refine W.widen (k := 52) (n := 478) (Nat.le_of_ble_eq_true rfl) (Nat.le_of_ble_eq_true rfl) ?_
  refine va_putF (D := (dC, dI)) (ci := 11) (v := .ref q_7) (C := RX11) (T := TX11) (N := 13) hx hb hts (fun _ h9 => List.mem_cons_of_mem _ (List.mem_append_left _ (List.mem_append_left _ (List.mem_append_left _ (List.mem_append_left _ (List.mem_append_left _ (List.mem_append_left _ (List.mem_append_left _ (List.mem_append_left _ (List.mem_append_left _ (List.mem_append_left _ (List.mem_append_right _ h9)))))))))))) tyX11 tyX11_ok nmX11 hown hK hP hD hS 0 rfl rfl 2 (by decide) (hts (.fieldLink RX11 26 "SeatsRound" "keepers" "LSeatsRound$Keepers;") (List.mem_of_getElem? (i := 15) rfl)) (fun _ h9 => h9) rfl hin rfl (tyX11_ok 2 (by decide)) rfl rfl (Nat.le_of_ble_eq_true rfl) dX11_init_34 (fun H locs hP hD hS => ?_)
  have hP : va_P (dC, dI) vwCl (([(h0, .inr (11, [.ref q_1, .ref q_4, .ref q_7, .null, .null, .null, .int 0, .null, .null, .null, .null, .null, .null]))] : va_W) ++ pl_9) H := hP
  have hD : va_D A (([(h0, .inr (11, [.ref q_1, .ref q_4, .ref q_7, .null, .null, .null, .int 0, .null, .null, .null, .null, .null, .null]))] : va_W) ++ pl_9) := hD
  refine lv_aload_n hx hb dX11_init_37 rfl (lv_at hl 0 rfl) ?_
  refine va_new (ci := 3) (fs := [.null, .int 0, .int 0, .int 0, .int 0, .int 0, .int 0, .int 0]) (C := RX3) (T := TX3) (N := 8) hx hb hts (fun _ h9 => List.mem_cons_of_mem _ (List.mem_append_left _ (List.mem_append_left _ (List.mem_append_left _ (List.mem_append_left _ (List.mem_append_left _ (List.mem_append_left _ (List.mem_append_left _ (List.mem_append_right _ h9))))))))) tyX3 tyX3_ok hown (hts (.classLink RX11 30 RX3) (List.mem_of_getElem? (i := 16) rfl)) (hts (.instantiable RX3 8) (List.mem_of_getElem? (i := 17) rfl)) (hts (.initialized RX3) (List.mem_of_getElem? (i := 18) rfl)) hK hP hD hS hA rfl (fun j hj => vz_dfX3 j hj) (Nat.le_of_ble_eq_true rfl) (Nat.le_of_ble_eq_true rfl) dX11_init_38 (fun q_10 H hP hD hS => ?_)
  have hP := va_P.swap hP
  have hD := va_D.swap hD
  have hP : va_P (dC, dI) vwCl (([(h0, .inr (11, [.ref q_1, .ref q_4, .ref q_7, .null, .null, .null, .int 0, .null, .null, .null, .null, .null, .null])), (q_10, .inr (3, [.null, .int 0, .int 0, .int 0, .int 0, .int 0, .int 0, .int 0]))] : va_W) ++ pl_9) H := hP
  have hD : va_D A (([(h0, .inr (11, [.ref q_1, .ref q_4, .ref q_7, .null, .null, .null, .int 0, .null, .null, .null, .null, .null, .null])), (q_10, .inr (3, [.null, .int 0, .int 0, .int 0, .int 0, .int 0, .int 0, .int 0]))] : va_W) ++ pl_9) := hD
  refine W.widen (k := 53) (n := 486) (Nat.le_of_ble_eq_true rfl) (Nat.le_of_ble_eq_true rfl) ?_
  refine lv_dup hx hb dX11_init_41 rfl ?_
  change W _ _ _ _ _ _ _ _ _ _ _ _ _ _ _ (F0 m 42 ls [.ref q_10, .ref q_10, .ref h0])
  have hPc := hP.sub (ws' := [(q_10, .inr (3, [.null, .int 0, .int 0, .int 0, .int 0, .int 0, .int 0, .int 0]))]) [1] rfl
  have hDc := hD.sub (ws' := [(q_10, .inr (3, [.null, .int 0, .int 0, .int 0, .int 0, .int 0, .int 0, .int 0]))]) [1] (by decide +kernel) rfl
  have hFc := va_free (wc := [(q_10, .inr (3, [.null, .int 0, .int 0, .int 0, .int 0, .int 0, .int 0, .int 0]))]) hD hS hA [1] rfl
  refine va_callv (va_runIN (As := []) (rest := [.ref q_10, .ref h0]) ⟨hx, hb, hml, hown, hts⟩ (i_Law l dC dI cy q_10 H.size) ⟨va_cnB 0 hts gX11_init_X3_init_n32 rfl rfl rfl (hN.1 _ (List.mem_of_getElem? (i := 3) rfl)) (hts (.initialized RX3) (List.mem_of_getElem? (i := 18) rfl)) (by decide +kernel) ⟨Nat.le_of_ble_eq_true rfl, Nat.le_of_ble_eq_true rfl⟩, rfl, (hts (.instanceMethod yX3_init) (List.mem_of_getElem? (i := 75) rfl))⟩ (wp_S hK hN hPc hDc) rfl rfl hl.1 rfl (lv_room (Nat.le_of_ble_eq_true rfl)) dX11_init_42 ⟨Nat.le_of_ble_eq_true rfl, Nat.le_of_ble_eq_true rfl⟩) hS (fun q _ h => hFc q h) hFc (fun u_11 t H1 locs ht hvm hw_11 hB hz1 hk1 hS => ?_)
  obtain ⟨hP1, hD1⟩ := hB
  rw [ht] at hP1
  obtain ⟨hP, hD⟩ := va_joinQ (wr := [(h0, .inr (11, [.ref q_1, .ref q_4, .ref q_7, .null, .null, .null, .int 0, .null, .null, .null, .null, .null, .null]))]) (w1 := [(q_10, .inr (3, [.ref (u_11 0 0), .int 0, .int 0, .int (-1), .int 0, .int 0, .int 0, .int 0])), ((u_11 0 0), .inl (cy 1, 0, .inl (fun _ => 0)))]) hP hD [1] [0] rfl rfl (by decide +kernel) (by decide +kernel) hk1 hFc hP1 hD1
  have hP := wz_KP hP
  have hD := wz_KD hD
  obtain ⟨pl_12, epl_12⟩ : ∃ x : va_W, x = (([(q_10, .inr (3, [.ref (u_11 0 0), .int 0, .int 0, .int (-1), .int 0, .int 0, .int 0, .int 0])), ((u_11 0 0), .inl (cy 1, 0, .inl (fun _ => 0)))] : va_W) ++ pl_9) := ⟨_, rfl⟩
  rw [← epl_12] at hP hD
  generalize H1 = H at hP hS ⊢
  have hP : va_P (dC, dI) vwCl (([(h0, .inr (11, [.ref q_1, .ref q_4, .ref q_7, .null, .null, .null, .int 0, .null, .null, .null, .null, .null, .null]))] : va_W) ++ pl_12) H := hP
  have hD : va_D A (([(h0, .inr (11, [.ref q_1, .ref q_4, .ref q_7, .null, .null, .null, .int 0, .null, .null, .null, .null, .null, .null]))] : va_W) ++ pl_12) := hD
  refine W.widen (k := 54) (n := 486) (Nat.le_of_ble_eq_true rfl) (Nat.le_of_ble_eq_true rfl) ?_
  refine va_putF (D := (dC, dI)) (ci := 11) (v := .ref q_10) (C := RX11) (T := TX11) (N := 13) hx hb hts (fun _ h9 => List.mem_cons_of_mem _ (List.mem_append_left _ (List.mem_append_left _ (List.mem_append_left _ (List.mem_append_left _ (List.mem_append_left _ (List.mem_append_left _ (List.mem_append_left _ (List.mem_append_left _ (List.mem_append_left _ (List.mem_append_left _ (List.mem_append_right _ h9)))))))))))) tyX11 tyX11_ok nmX11 hown hK hP hD hS 0 rfl rfl 3 (by decide) (hts (.fieldLink RX11 33 "SeatsRound" "law" "LSeatsRound$Law;") (List.mem_of_getElem? (i := 19) rfl)) (fun _ h9 => h9) rfl hin rfl (tyX11_ok 3 (by decide)) rfl rfl (Nat.le_of_ble_eq_true rfl) dX11_init_45 (fun H locs hP hD hS => ?_)
  have hP : va_P (dC, dI) vwCl (([(h0, .inr (11, [.ref q_1, .ref q_4, .ref q_7, .ref q_10, .null, .null, .int 0, .null, .null, .null, .null, .null, .null]))] : va_W) ++ pl_12) H := hP
  have hD : va_D A (([(h0, .inr (11, [.ref q_1, .ref q_4, .ref q_7, .ref q_10, .null, .null, .int 0, .null, .null, .null, .null, .null, .null]))] : va_W) ++ pl_12) := hD
  refine lv_aload_n hx hb dX11_init_48 rfl (lv_at hl 0 rfl) ?_
  refine va_new (ci := 1) (fs := [.null, .null, .int 0, .int 0, .int 0, .int 0, .int 0, .null, .null]) (C := RX1) (T := TX1) (N := 9) hx hb hts (fun _ h9 => List.mem_cons_of_mem _ (List.mem_append_left _ (List.mem_append_left _ (List.mem_append_left _ (List.mem_append_left _ (List.mem_append_left _ (List.mem_append_left _ (List.mem_append_right _ h9)))))))) tyX1 tyX1_ok hown (hts (.classLink RX11 37 RX1) (List.mem_of_getElem? (i := 20) rfl)) (hts (.instantiable RX1 9) (List.mem_of_getElem? (i := 21) rfl)) (hts (.initialized RX1) (List.mem_of_getElem? (i := 22) rfl)) hK hP hD hS hA rfl (fun j hj => vz_dfX1 j hj) (Nat.le_of_ble_eq_true rfl) (Nat.le_of_ble_eq_true rfl) dX11_init_49 (fun q_13 H hP hD hS => ?_)
  have hP := va_P.swap hP
  have hD := va_D.swap hD
  have hP : va_P (dC, dI) vwCl (([(h0, .inr (11, [.ref q_1, .ref q_4, .ref q_7, .ref q_10, .null, .null, .int 0, .null, .null, .null, .null, .null, .null])), (q_13, .inr (1, [.null, .null, .int 0, .int 0, .int 0, .int 0, .int 0, .null, .null]))] : va_W) ++ pl_12) H := hP
  have hD : va_D A (([(h0, .inr (11, [.ref q_1, .ref q_4, .ref q_7, .ref q_10, .null, .null, .int 0, .null, .null, .null, .null, .null, .null])), (q_13, .inr (1, [.null, .null, .int 0, .int 0, .int 0, .int 0, .int 0, .null, .null]))] : va_W) ++ pl_12) := hD
  refine W.widen (k := 55) (n := 495) (Nat.le_of_ble_eq_true rfl) (Nat.le_of_ble_eq_true rfl) ?_
  refine lv_dup hx hb dX11_init_52 rfl ?_
  refine lv_aload_n hx hb dX11_init_53 rfl (lv_at hl 0 rfl) ?_
  refine va_get (D := (dC, dI)) (ci := 11) (v := .ref q_7) (C := RX11) (T := TX11) (N := 13) hx hb hts (fun _ h9 => List.mem_cons_of_mem _ (List.mem_append_left _ (List.mem_append_left _ (List.mem_append_left _ (List.mem_append_left _ (List.mem_append_left _ (List.mem_append_left _ (List.mem_append_left _ (List.mem_append_left _ (List.mem_append_left _ (List.mem_append_left _ (List.mem_append_right _ h9)))))))))))) hown hK hP 0 rfl rfl 2 (by decide) (hts (.fieldLink RX11 26 "SeatsRound" "keepers" "LSeatsRound$Keepers;") (List.mem_of_getElem? (i := 15) rfl)) (fun _ h9 => h9) rfl dX11_init_54 ?_
  have hPc := hP.sub (ws' := [(q_13, .inr (1, [.null, .null, .int 0, .int 0, .int 0, .int 0, .int 0, .null, .null]))]) [1] rfl
  have hDc := hD.sub (ws' := [(q_13, .inr (1, [.null, .null, .int 0, .int 0, .int 0, .int 0, .int 0, .null, .null]))]) [1] (by decide +kernel) rfl
  have hFc := va_free (wc := [(q_13, .inr (1, [.null, .null, .int 0, .int 0, .int 0, .int 0, .int 0, .null, .null]))]) hD hS hA [1] rfl
  refine va_callv (va_runI (As := [.ref q_7]) (rest := [.ref q_13, .ref h0]) ⟨hx, hb, hml, hown, hts⟩ (i_Choice l dC dI cy q_13 q_7 H.size) (cwI 1 hts gX11_init_X1_init rfl rfl rfl (hts (.initialized RX1) (List.mem_of_getElem? (i := 22) rfl)) (hts (.methodLink RX11 39 yX1_init) (List.mem_of_getElem? (i := 86) rfl)) (hts (.instanceMethod yX1_init) (List.mem_of_getElem? (i := 87) rfl)) rfl (by decide +kernel) ⟨Nat.le_of_ble_eq_true rfl, Nat.le_of_ble_eq_true rfl⟩) (wp_S hK hN hPc hDc) rfl rfl hl.1 rfl (lv_room (Nat.le_of_ble_eq_true rfl)) dX11_init_57 ⟨Nat.le_of_ble_eq_true rfl, Nat.le_of_ble_eq_true rfl⟩) hS (fun q _ h => hFc q h) hFc (fun u_14 t H1 locs ht hvm hw_14 hB hz1 hk1 hS => ?_)
  obtain ⟨hP1, hD1⟩ := hB
  rw [ht] at hP1
  obtain ⟨hP, hD⟩ := va_joinQ (wr := [(h0, .inr (11, [.ref q_1, .ref q_4, .ref q_7, .ref q_10, .null, .null, .int 0, .null, .null, .null, .null, .null, .null]))]) (w1 := [(q_13, .inr (1, [.ref (u_14 0 0), .ref (u_14 0 1), .int 0, .int 0, .int 0, .int 0, .int 0, .ref (u_14 0 2), .ref q_7])), ((u_14 0 0), .inl (cy 0, 12, .inl (fun _ => 0))), ((u_14 0 1), .inl (cy 0, 12, .inl (fun _ => 0))), ((u_14 0 2), .inl (cy 0, 12, .inl (fun _ => 0)))]) hP hD [1] [0] rfl rfl (by decide +kernel) (by decide +kernel) hk1 hFc hP1 hD1
  have hP := wz_KP hP
  have hD := wz_KD hD
  obtain ⟨pl_15, epl_15⟩ : ∃ x : va_W, x = (([(q_13, .inr (1, [.ref (u_14 0 0), .ref (u_14 0 1), .int 0, .int 0, .int 0, .int 0, .int 0, .ref (u_14 0 2), .ref q_7])), ((u_14 0 0), .inl (cy 0, 12, .inl (fun _ => 0))), ((u_14 0 1), .inl (cy 0, 12, .inl (fun _ => 0))), ((u_14 0 2), .inl (cy 0, 12, .inl (fun _ => 0)))] : va_W) ++ pl_12) := ⟨_, rfl⟩
  rw [← epl_15] at hP hD
  generalize H1 = H at hP hS ⊢
  have hP : va_P (dC, dI) vwCl (([(h0, .inr (11, [.ref q_1, .ref q_4, .ref q_7, .ref q_10, .null, .null, .int 0, .null, .null, .null, .null, .null, .null]))] : va_W) ++ pl_15) H := hP
  have hD : va_D A (([(h0, .inr (11, [.ref q_1, .ref q_4, .ref q_7, .ref q_10, .null, .null, .int 0, .null, .null, .null, .null, .null, .null]))] : va_W) ++ pl_15) := hD
  refine W.widen (k := 58) (n := 531) (Nat.le_of_ble_eq_true rfl) (Nat.le_of_ble_eq_true rfl) ?_
  change W _ _ _ _ _ _ _ _ _ _ _ _ _ _ _ (F0 m 60 ls [.ref q_13, .ref h0])
  refine va_putF (D := (dC, dI)) (ci := 11) (v := .ref q_13) (C := RX11) (T := TX11) (N := 13) hx hb hts (fun _ h9 => List.mem_cons_of_mem _ (List.mem_append_left _ (List.mem_append_left _ (List.mem_append_left _ (List.mem_append_left _ (List.mem_append_left _ (List.mem_append_left _ (List.mem_append_left _ (List.mem_append_left _ (List.mem_append_left _ (List.mem_append_left _ (List.mem_append_right _ h9)))))))))))) tyX11 tyX11_ok nmX11 hown hK hP hD hS 0 rfl rfl 4 (by decide) (hts (.fieldLink RX11 42 "SeatsRound" "choice" "LSeatsRound$Choice;") (List.mem_of_getElem? (i := 23) rfl)) (fun _ h9 => h9) rfl hin rfl (tyX11_ok 4 (by decide)) rfl rfl (Nat.le_of_ble_eq_true rfl) dX11_init_60 (fun H locs hP hD hS => ?_)
  have hP : va_P (dC, dI) vwCl (([(h0, .inr (11, [.ref q_1, .ref q_4, .ref q_7, .ref q_10, .ref q_13, .null, .int 0, .null, .null, .null, .null, .null, .null]))] : va_W) ++ pl_15) H := hP
  have hD : va_D A (([(h0, .inr (11, [.ref q_1, .ref q_4, .ref q_7, .ref q_10, .ref q_13, .null, .int 0, .null, .null, .null, .null, .null, .null]))] : va_W) ++ pl_15) := hD
  refine lv_aload_n hx hb dX11_init_63 rfl (lv_at hl 0 rfl) ?_
  refine lv_bipush (v := 10) hx hb dX11_init_64 (by decide) ?_
  refine vz_newq (t0 := 8) (N' := 10) hx hb hown (hts (.classLink RX11 46 RX8) (List.mem_of_getElem? (i := 24) rfl)) hN.2.1 rfl hK hP hD hS hA (by decide) rfl (by decide) (Nat.le_of_ble_eq_true rfl) (Nat.le_of_ble_eq_true rfl) dX11_init_66 (fun q_16 H hP hD hS => ?_)
  have hP := va_P.swap hP
  have hD := va_D.swap hD
  have hP : va_P (dC, dI) vwCl (([(h0, .inr (11, [.ref q_1, .ref q_4, .ref q_7, .ref q_10, .ref q_13, .null, .int 0, .null, .null, .null, .null, .null, .null])), (q_16, .inl (cy 8, 10, .inr (.inr (.inr (.inr (fun _ => none))))))] : va_W) ++ pl_15) H := hP
  have hD : va_D A (([(h0, .inr (11, [.ref q_1, .ref q_4, .ref q_7, .ref q_10, .ref q_13, .null, .int 0, .null, .null, .null, .null, .null, .null])), (q_16, .inl (cy 8, 10, .inr (.inr (.inr (.inr (fun _ => none))))))] : va_W) ++ pl_15) := hD
  refine W.widen (k := 59) (n := 541) (Nat.le_of_ble_eq_true rfl) (Nat.le_of_ble_eq_true rfl) ?_
  refine va_putF (D := (dC, dI)) (ci := 11) (v := .ref q_16) (C := RX11) (T := TX11) (N := 13) hx hb hts (fun _ h9 => List.mem_cons_of_mem _ (List.mem_append_left _ (List.mem_append_left _ (List.mem_append_left _ (List.mem_append_left _ (List.mem_append_left _ (List.mem_append_left _ (List.mem_append_left _ (List.mem_append_left _ (List.mem_append_left _ (List.mem_append_left _ (List.mem_append_right _ h9)))))))))))) tyX11 tyX11_ok nmX11 hown hK hP hD hS 0 rfl rfl 5 (by decide) (hts (.fieldLink RX11 48 "SeatsRound" "tables" "[LSeatsRound$Table;") (List.mem_of_getElem? (i := 25) rfl)) (fun _ h9 => h9) rfl hin rfl (tyX11_ok 5 (by decide)) rfl rfl (Nat.le_of_ble_eq_true rfl) dX11_init_69 (fun H locs hP hD hS => ?_)
  have hP : va_P (dC, dI) vwCl (([(h0, .inr (11, [.ref q_1, .ref q_4, .ref q_7, .ref q_10, .ref q_13, .ref q_16, .int 0, .null, .null, .null, .null, .null, .null])), (q_16, .inl (cy 8, 10, .inr (.inr (.inr (.inr (fun _ => none))))))] : va_W) ++ pl_15) H := hP
  have hD : va_D A (([(h0, .inr (11, [.ref q_1, .ref q_4, .ref q_7, .ref q_10, .ref q_13, .ref q_16, .int 0, .null, .null, .null, .null, .null, .null])), (q_16, .inl (cy 8, 10, .inr (.inr (.inr (.inr (fun _ => none))))))] : va_W) ++ pl_15) := hD
  refine lv_aload_n hx hb dX11_init_72 rfl (lv_at hl 0 rfl) ?_
  refine lv_iconst (v := 0) hx hb dX11_init_73 (by decide) ?_
  refine va_put (D := (dC, dI)) (ci := 11) (v := .int 0) (C := RX11) (T := TX11) (N := 13) hx hb hts (fun _ h9 => List.mem_cons_of_mem _ (List.mem_append_left _ (List.mem_append_left _ (List.mem_append_left _ (List.mem_append_left _ (List.mem_append_left _ (List.mem_append_left _ (List.mem_append_left _ (List.mem_append_left _ (List.mem_append_left _ (List.mem_append_left _ (List.mem_append_right _ h9)))))))))))) tyX11 tyX11_ok nmX11 hown hK hP hD hS 0 rfl rfl 6 (by decide) (hts (.fieldLink RX11 52 "SeatsRound" "tableCount" "I") (List.mem_of_getElem? (i := 26) rfl)) (fun _ h9 => h9) rfl (tyX11_ok 6 (by decide)) rfl rfl (Nat.le_of_ble_eq_true rfl) dX11_init_74 (fun H locs hP hD hS => ?_)
  have hP : va_P (dC, dI) vwCl (([(h0, .inr (11, [.ref q_1, .ref q_4, .ref q_7, .ref q_10, .ref q_13, .ref q_16, .int 0, .null, .null, .null, .null, .null, .null])), (q_16, .inl (cy 8, 10, .inr (.inr (.inr (.inr (fun _ => none))))))] : va_W) ++ pl_15) H := hP
  have hD : va_D A (([(h0, .inr (11, [.ref q_1, .ref q_4, .ref q_7, .ref q_10, .ref q_13, .ref q_16, .int 0, .null, .null, .null, .null, .null, .null])), (q_16, .inl (cy 8, 10, .inr (.inr (.inr (.inr (fun _ => none))))))] : va_W) ++ pl_15) := hD
  change W _ _ _ _ _ _ _ _ _ _ _ _ _ _ _ (F0 m 77 ls [])
  refine lv_aload_n hx hb dX11_init_77 rfl (lv_at hl 0 rfl) ?_
  refine va_new (ci := 8) (fs := [.int 0, .int 0, .int 0, .int 0, .int 0, .int 0, .int 0, .int 0, .null, .null, .null, .null, .null]) (C := RX8) (T := TX8) (N := 13) hx hb hts (fun _ h9 => List.mem_cons_of_mem _ (List.mem_append_left _ (List.mem_append_left _ (List.mem_append_left _ (List.mem_append_left _ (List.mem_append_left _ (List.mem_append_right _ h9))))))) tyX8 tyX8_ok hown (hts (.classLink RX11 46 RX8) (List.mem_of_getElem? (i := 24) rfl)) (hts (.instantiable RX8 13) (List.mem_of_getElem? (i := 27) rfl)) (hts (.initialized RX8) (List.mem_of_getElem? (i := 28) rfl)) hK hP hD hS hA rfl (fun j hj => vz_dfX8 j hj) (Nat.le_of_ble_eq_true rfl) (Nat.le_of_ble_eq_true rfl) dX11_init_78 (fun q_17 H hP hD hS => ?_)
  have hP := va_P.swap hP
  have hD := va_D.swap hD
  have hP : va_P (dC, dI) vwCl (([(h0, .inr (11, [.ref q_1, .ref q_4, .ref q_7, .ref q_10, .ref q_13, .ref q_16, .int 0, .null, .null, .null, .null, .null, .null])), (q_16, .inl (cy 8, 10, .inr (.inr (.inr (.inr (fun _ => none)))))), (q_17, .inr (8, [.int 0, .int 0, .int 0, .int 0, .int 0, .int 0, .int 0, .int 0, .null, .null, .null, .null, .null]))] : va_W) ++ pl_15) H := hP
  have hD : va_D A (([(h0, .inr (11, [.ref q_1, .ref q_4, .ref q_7, .ref q_10, .ref q_13, .ref q_16, .int 0, .null, .null, .null, .null, .null, .null])), (q_16, .inl (cy 8, 10, .inr (.inr (.inr (.inr (fun _ => none)))))), (q_17, .inr (8, [.int 0, .int 0, .int 0, .int 0, .int 0, .int 0, .int 0, .int 0, .null, .null, .null, .null, .null]))] : va_W) ++ pl_15) := hD
  refine W.widen (k := 60) (n := 554) (Nat.le_of_ble_eq_true rfl) (Nat.le_of_ble_eq_true rfl) ?_
  refine lv_dup hx hb dX11_init_81 rfl ?_
  have hPc := hP.sub (ws' := [(q_17, .inr (8, [.int 0, .int 0, .int 0, .int 0, .int 0, .int 0, .int 0, .int 0, .null, .null, .null, .null, .null]))]) [2] rfl
  have hDc := hD.sub (ws' := [(q_17, .inr (8, [.int 0, .int 0, .int 0, .int 0, .int 0, .int 0, .int 0, .int 0, .null, .null, .null, .null, .null]))]) [2] (by decide +kernel) rfl
  have hFc := va_free (wc := [(q_17, .inr (8, [.int 0, .int 0, .int 0, .int 0, .int 0, .int 0, .int 0, .int 0, .null, .null, .null, .null, .null]))]) hD hS hA [2] rfl
  refine va_callv (va_runIN (As := []) (rest := [.ref q_17, .ref h0]) ⟨hx, hb, hml, hown, hts⟩ (i_Table l dC dI cy q_17 H.size) ⟨va_cnB 0 hts gX11_init_X8_init_n56 rfl rfl rfl (hN.1 _ (List.mem_of_getElem? (i := 4) rfl)) (hts (.initialized RX8) (List.mem_of_getElem? (i := 28) rfl)) (by decide +kernel) ⟨Nat.le_of_ble_eq_true rfl, Nat.le_of_ble_eq_true rfl⟩, rfl, (hts (.instanceMethod yX8_init) (List.mem_of_getElem? (i := 99) rfl))⟩ (wp_S hK hN hPc hDc) rfl rfl hl.1 rfl (lv_room (Nat.le_of_ble_eq_true rfl)) dX11_init_82 ⟨Nat.le_of_ble_eq_true rfl, Nat.le_of_ble_eq_true rfl⟩) hS (fun q _ h => hFc q h) hFc (fun u_18 t H1 locs ht hvm hw_18 hB hz1 hk1 hS => ?_)
  obtain ⟨hP1, hD1⟩ := hB
  rw [ht] at hP1
  obtain ⟨hP, hD⟩ := va_joinQ (wr := [(h0, .inr (11, [.ref q_1, .ref q_4, .ref q_7, .ref q_10, .ref q_13, .ref q_16, .int 0, .null, .null, .null, .null, .null, .null])), (q_16, .inl (cy 8, 10, .inr (.inr (.inr (.inr (fun _ => none))))))]) (w1 := [(q_17, .inr (8, [.int 0, .int 0, .int 1, .int 1, .int 0, .int 0, .int 0, .int 0, .ref (u_18 0 0), .ref (u_18 0 1), .ref (u_18 0 2), .ref (u_18 0 3), .ref (u_18 0 4)])), ((u_18 0 0), .inl (cy 0, 12, .inl (fun _ => 0))), ((u_18 0 1), .inl (cy 0, 12, .inl (fun _ => 0))), ((u_18 0 2), .inl (cy 1, 80, .inl (fun _ => 0))), ((u_18 0 3), .inl (cy 1, 1000, .inl (fun _ => 0))), ((u_18 0 4), .inl (cy 3, 1000, .inl (fun _ => 0)))]) hP hD [2] [0, 1] rfl rfl (by decide +kernel) (by decide +kernel) hk1 hFc hP1 hD1
  have hP := wz_KP hP
  have hD := wz_KD hD
  obtain ⟨pl_19, epl_19⟩ : ∃ x : va_W, x = (([(q_17, .inr (8, [.int 0, .int 0, .int 1, .int 1, .int 0, .int 0, .int 0, .int 0, .ref (u_18 0 0), .ref (u_18 0 1), .ref (u_18 0 2), .ref (u_18 0 3), .ref (u_18 0 4)])), ((u_18 0 0), .inl (cy 0, 12, .inl (fun _ => 0))), ((u_18 0 1), .inl (cy 0, 12, .inl (fun _ => 0))), ((u_18 0 2), .inl (cy 1, 80, .inl (fun _ => 0))), ((u_18 0 3), .inl (cy 1, 1000, .inl (fun _ => 0))), ((u_18 0 4), .inl (cy 3, 1000, .inl (fun _ => 0)))] : va_W) ++ pl_15) := ⟨_, rfl⟩
  rw [← epl_19] at hP hD
  generalize H1 = H at hP hS ⊢
  have hP : va_P (dC, dI) vwCl (([(h0, .inr (11, [.ref q_1, .ref q_4, .ref q_7, .ref q_10, .ref q_13, .ref q_16, .int 0, .null, .null, .null, .null, .null, .null])), (q_16, .inl (cy 8, 10, .inr (.inr (.inr (.inr (fun _ => none))))))] : va_W) ++ pl_19) H := hP
  have hD : va_D A (([(h0, .inr (11, [.ref q_1, .ref q_4, .ref q_7, .ref q_10, .ref q_13, .ref q_16, .int 0, .null, .null, .null, .null, .null, .null])), (q_16, .inl (cy 8, 10, .inr (.inr (.inr (.inr (fun _ => none))))))] : va_W) ++ pl_19) := hD
  refine W.widen (k := 65) (n := 2658) (Nat.le_of_ble_eq_true rfl) (Nat.le_of_ble_eq_true rfl) ?_
  refine va_putF (D := (dC, dI)) (ci := 11) (v := .ref q_17) (C := RX11) (T := TX11) (N := 13) hx hb hts (fun _ h9 => List.mem_cons_of_mem _ (List.mem_append_left _ (List.mem_append_left _ (List.mem_append_left _ (List.mem_append_left _ (List.mem_append_left _ (List.mem_append_left _ (List.mem_append_left _ (List.mem_append_left _ (List.mem_append_left _ (List.mem_append_left _ (List.mem_append_right _ h9)))))))))))) tyX11 tyX11_ok nmX11 hown hK hP hD hS 0 rfl rfl 7 (by decide) (hts (.fieldLink RX11 57 "SeatsRound" "draft" "LSeatsRound$Table;") (List.mem_of_getElem? (i := 29) rfl)) (fun _ h9 => h9) rfl hin rfl (tyX11_ok 7 (by decide)) rfl rfl (Nat.le_of_ble_eq_true rfl) dX11_init_85 (fun H locs hP hD hS => ?_)
  have hP : va_P (dC, dI) vwCl (([(h0, .inr (11, [.ref q_1, .ref q_4, .ref q_7, .ref q_10, .ref q_13, .ref q_16, .int 0, .ref q_17, .null, .null, .null, .null, .null])), (q_16, .inl (cy 8, 10, .inr (.inr (.inr (.inr (fun _ => none))))))] : va_W) ++ pl_19) H := hP
  have hD : va_D A (([(h0, .inr (11, [.ref q_1, .ref q_4, .ref q_7, .ref q_10, .ref q_13, .ref q_16, .int 0, .ref q_17, .null, .null, .null, .null, .null])), (q_16, .inl (cy 8, 10, .inr (.inr (.inr (.inr (fun _ => none))))))] : va_W) ++ pl_19) := hD
  refine lv_aload_n hx hb dX11_init_88 rfl (lv_at hl 0 rfl) ?_
  refine va_new (ci := 6) (fs := [.null, .null, .null, .null, .null, .null, .null, .null, .int 0, .null, .null, .null]) (C := RX6) (T := TX6) (N := 12) hx hb hts (fun _ h9 => List.mem_cons_of_mem _ (List.mem_append_left _ (List.mem_append_left _ (List.mem_append_left _ (List.mem_append_left _ (List.mem_append_right _ h9)))))) tyX6 tyX6_ok hown (hts (.classLink RX11 61 RX6) (List.mem_of_getElem? (i := 30) rfl)) (hts (.instantiable RX6 12) (List.mem_of_getElem? (i := 31) rfl)) (hts (.initialized RX6) (List.mem_of_getElem? (i := 32) rfl)) hK hP hD hS hA rfl (fun j hj => vz_dfX6 j hj) (Nat.le_of_ble_eq_true rfl) (Nat.le_of_ble_eq_true rfl) dX11_init_89 (fun q_20 H hP hD hS => ?_)
  have hP := va_P.swap hP
  have hD := va_D.swap hD
  have hP : va_P (dC, dI) vwCl (([(h0, .inr (11, [.ref q_1, .ref q_4, .ref q_7, .ref q_10, .ref q_13, .ref q_16, .int 0, .ref q_17, .null, .null, .null, .null, .null])), (q_16, .inl (cy 8, 10, .inr (.inr (.inr (.inr (fun _ => none)))))), (q_20, .inr (6, [.null, .null, .null, .null, .null, .null, .null, .null, .int 0, .null, .null, .null]))] : va_W) ++ pl_19) H := hP
  have hD : va_D A (([(h0, .inr (11, [.ref q_1, .ref q_4, .ref q_7, .ref q_10, .ref q_13, .ref q_16, .int 0, .ref q_17, .null, .null, .null, .null, .null])), (q_16, .inl (cy 8, 10, .inr (.inr (.inr (.inr (fun _ => none)))))), (q_20, .inr (6, [.null, .null, .null, .null, .null, .null, .null, .null, .int 0, .null, .null, .null]))] : va_W) ++ pl_19) := hD
  refine W.widen (k := 66) (n := 2670) (Nat.le_of_ble_eq_true rfl) (Nat.le_of_ble_eq_true rfl) ?_
  refine lv_dup hx hb dX11_init_92 rfl ?_
  change W _ _ _ _ _ _ _ _ _ _ _ _ _ _ _ (F0 m 93 ls [.ref q_20, .ref q_20, .ref h0])
  refine lv_aload_n hx hb dX11_init_93 rfl (lv_at hl 0 rfl) ?_
  refine va_get (D := (dC, dI)) (ci := 11) (v := .ref q_7) (C := RX11) (T := TX11) (N := 13) hx hb hts (fun _ h9 => List.mem_cons_of_mem _ (List.mem_append_left _ (List.mem_append_left _ (List.mem_append_left _ (List.mem_append_left _ (List.mem_append_left _ (List.mem_append_left _ (List.mem_append_left _ (List.mem_append_left _ (List.mem_append_left _ (List.mem_append_left _ (List.mem_append_right _ h9)))))))))))) hown hK hP 0 rfl rfl 2 (by decide) (hts (.fieldLink RX11 26 "SeatsRound" "keepers" "LSeatsRound$Keepers;") (List.mem_of_getElem? (i := 15) rfl)) (fun _ h9 => h9) rfl dX11_init_94 ?_
  refine lv_aload_n hx hb dX11_init_97 rfl (lv_at hl 0 rfl) ?_
  refine va_get (D := (dC, dI)) (ci := 11) (v := .ref q_4) (C := RX11) (T := TX11) (N := 13) hx hb hts (fun _ h9 => List.mem_cons_of_mem _ (List.mem_append_left _ (List.mem_append_left _ (List.mem_append_left _ (List.mem_append_left _ (List.mem_append_left _ (List.mem_append_left _ (List.mem_append_left _ (List.mem_append_left _ (List.mem_append_left _ (List.mem_append_left _ (List.mem_append_right _ h9)))))))))))) hown hK hP 0 rfl rfl 1 (by decide) (hts (.fieldLink RX11 19 "SeatsRound" "nameList" "LSeatsRound$NameList;") (List.mem_of_getElem? (i := 11) rfl)) (fun _ h9 => h9) rfl dX11_init_98 ?_
  refine lv_aload_n hx hb dX11_init_101 rfl (lv_at hl 0 rfl) ?_
  refine va_get (D := (dC, dI)) (ci := 11) (v := .ref q_13) (C := RX11) (T := TX11) (N := 13) hx hb hts (fun _ h9 => List.mem_cons_of_mem _ (List.mem_append_left _ (List.mem_append_left _ (List.mem_append_left _ (List.mem_append_left _ (List.mem_append_left _ (List.mem_append_left _ (List.mem_append_left _ (List.mem_append_left _ (List.mem_append_left _ (List.mem_append_left _ (List.mem_append_right _ h9)))))))))))) hown hK hP 0 rfl rfl 4 (by decide) (hts (.fieldLink RX11 42 "SeatsRound" "choice" "LSeatsRound$Choice;") (List.mem_of_getElem? (i := 23) rfl)) (fun _ h9 => h9) rfl dX11_init_102 ?_
  have hPc := hP.sub (ws' := [(q_20, .inr (6, [.null, .null, .null, .null, .null, .null, .null, .null, .int 0, .null, .null, .null]))]) [2] rfl
  have hDc := hD.sub (ws' := [(q_20, .inr (6, [.null, .null, .null, .null, .null, .null, .null, .null, .int 0, .null, .null, .null]))]) [2] (by decide +kernel) rfl
  have hFc := va_free (wc := [(q_20, .inr (6, [.null, .null, .null, .null, .null, .null, .null, .null, .int 0, .null, .null, .null]))]) hD hS hA [2] rfl
  refine va_callv (va_runI (As := [.ref q_7, .ref q_4, .ref q_13]) (rest := [.ref q_20, .ref h0]) ⟨hx, hb, hml, hown, hts⟩ (i_Parcels l dC dI cy q_20 q_7 q_4 q_13 H.size) (cwI 3 hts gX11_init_X6_init rfl rfl rfl (hts (.initialized RX6) (List.mem_of_getElem? (i := 32) rfl)) (hts (.methodLink RX11 63 yX6_init) (List.mem_of_getElem? (i := 116) rfl)) (hts (.instanceMethod yX6_init) (List.mem_of_getElem? (i := 117) rfl)) rfl (by decide +kernel) ⟨Nat.le_of_ble_eq_true rfl, Nat.le_of_ble_eq_true rfl⟩) (wp_S hK hN hPc hDc) rfl rfl hl.1 rfl (lv_room (Nat.le_of_ble_eq_true rfl)) dX11_init_105 ⟨Nat.le_of_ble_eq_true rfl, Nat.le_of_ble_eq_true rfl⟩) hS (fun q _ h => hFc q h) hFc (fun u_21 t H1 locs ht hvm hw_21 hB hz1 hk1 hS => ?_)
  obtain ⟨hP1, hD1⟩ := hB
  rw [ht] at hP1
  obtain ⟨hP, hD⟩ := va_joinQ (wr := [(h0, .inr (11, [.ref q_1, .ref q_4, .ref q_7, .ref q_10, .ref q_13, .ref q_16, .int 0, .ref q_17, .null, .null, .null, .null, .null])), (q_16, .inl (cy 8, 10, .inr (.inr (.inr (.inr (fun _ => none))))))]) (w1 := (([(q_20, .inr (6, [.ref (u_21 0 0), .ref (u_21 0 1), .ref (u_21 0 2), .ref (u_21 0 3), .ref (u_21 0 4), .ref (u_21 0 5), .ref (u_21 0 6), .ref (u_21 0 7), .int 0, .ref q_7, .ref q_4, .ref q_13])), ((u_21 0 0), .inl (cy 6, 12, .inr (.inr (.inr (.inr (fun i => if i < 12 then some ((u_21 5) i) else none)))))), ((u_21 0 1), .inl (cy 6, 12, .inr (.inr (.inr (.inr (fun i => if i < 12 then some ((u_21 4) i) else none)))))), ((u_21 0 2), .inl (cy 6, 12, .inr (.inr (.inr (.inr (fun i => if i < 12 then some ((u_21 3) i) else none)))))), ((u_21 0 3), .inl (cy 6, 12, .inr (.inr (.inr (.inr (fun i => if i < 12 then some ((u_21 2) i) else none)))))), ((u_21 0 4), .inl (cy 6, 12, .inr (.inr (.inr (.inr (fun i => if i < 12 then some ((u_21 1) i) else none)))))), ((u_21 0 5), .inl (cy 0, 40, .inl (fun _ => 0))), ((u_21 0 6), .inl (cy 0, 16, .inl (fun _ => 0))), ((u_21 0 7), .inl (cy 0, 16, .inl (fun _ => 0)))] : va_W) ++ (((List.range 12).map (fun i => (((u_21 1) i, .inl (cy 0, 40, .inl (fun _ => 0))) : Nat × va_E))) ++ (((List.range 12).map (fun i => (((u_21 2) i, .inl (cy 0, 40, .inl (fun _ => 0))) : Nat × va_E))) ++ (((List.range 12).map (fun i => (((u_21 3) i, .inl (cy 0, 40, .inl (fun _ => 0))) : Nat × va_E))) ++ (((List.range 12).map (fun i => (((u_21 4) i, .inl (cy 0, 40, .inl (fun _ => 0))) : Nat × va_E))) ++ ((List.range 12).map (fun i => (((u_21 5) i, .inl (cy 0, 40, .inl (fun _ => 0))) : Nat × va_E))))))))) hP hD [2] [0, 1] rfl rfl (by decide +kernel) (by decide +kernel) hk1 hFc hP1 hD1
  have hP := wz_KP hP
  have hD := wz_KD hD
  obtain ⟨pl_22, epl_22⟩ : ∃ x : va_W, x = ((([(q_20, .inr (6, [.ref (u_21 0 0), .ref (u_21 0 1), .ref (u_21 0 2), .ref (u_21 0 3), .ref (u_21 0 4), .ref (u_21 0 5), .ref (u_21 0 6), .ref (u_21 0 7), .int 0, .ref q_7, .ref q_4, .ref q_13])), ((u_21 0 0), .inl (cy 6, 12, .inr (.inr (.inr (.inr (fun i => if i < 12 then some ((u_21 5) i) else none)))))), ((u_21 0 1), .inl (cy 6, 12, .inr (.inr (.inr (.inr (fun i => if i < 12 then some ((u_21 4) i) else none)))))), ((u_21 0 2), .inl (cy 6, 12, .inr (.inr (.inr (.inr (fun i => if i < 12 then some ((u_21 3) i) else none)))))), ((u_21 0 3), .inl (cy 6, 12, .inr (.inr (.inr (.inr (fun i => if i < 12 then some ((u_21 2) i) else none)))))), ((u_21 0 4), .inl (cy 6, 12, .inr (.inr (.inr (.inr (fun i => if i < 12 then some ((u_21 1) i) else none)))))), ((u_21 0 5), .inl (cy 0, 40, .inl (fun _ => 0))), ((u_21 0 6), .inl (cy 0, 16, .inl (fun _ => 0))), ((u_21 0 7), .inl (cy 0, 16, .inl (fun _ => 0)))] : va_W) ++ (((List.range 12).map (fun i => (((u_21 1) i, .inl (cy 0, 40, .inl (fun _ => 0))) : Nat × va_E))) ++ (((List.range 12).map (fun i => (((u_21 2) i, .inl (cy 0, 40, .inl (fun _ => 0))) : Nat × va_E))) ++ (((List.range 12).map (fun i => (((u_21 3) i, .inl (cy 0, 40, .inl (fun _ => 0))) : Nat × va_E))) ++ (((List.range 12).map (fun i => (((u_21 4) i, .inl (cy 0, 40, .inl (fun _ => 0))) : Nat × va_E))) ++ ((List.range 12).map (fun i => (((u_21 5) i, .inl (cy 0, 40, .inl (fun _ => 0))) : Nat × va_E)))))))) ++ pl_19) := ⟨_, rfl⟩
  rw [← epl_22] at hP hD
  generalize H1 = H at hP hS ⊢
  have hP : va_P (dC, dI) vwCl (([(h0, .inr (11, [.ref q_1, .ref q_4, .ref q_7, .ref q_10, .ref q_13, .ref q_16, .int 0, .ref q_17, .null, .null, .null, .null, .null])), (q_16, .inl (cy 8, 10, .inr (.inr (.inr (.inr (fun _ => none))))))] : va_W) ++ pl_22) H := hP
  have hD : va_D A (([(h0, .inr (11, [.ref q_1, .ref q_4, .ref q_7, .ref q_10, .ref q_13, .ref q_16, .int 0, .ref q_17, .null, .null, .null, .null, .null])), (q_16, .inl (cy 8, 10, .inr (.inr (.inr (.inr (fun _ => none))))))] : va_W) ++ pl_22) := hD
  refine W.widen (k := 134) (n := 5202) (Nat.le_of_ble_eq_true rfl) (Nat.le_of_ble_eq_true rfl) ?_
  refine va_putF (D := (dC, dI)) (ci := 11) (v := .ref q_20) (C := RX11) (T := TX11) (N := 13) hx hb hts (fun _ h9 => List.mem_cons_of_mem _ (List.mem_append_left _ (List.mem_append_left _ (List.mem_append_left _ (List.mem_append_left _ (List.mem_append_left _ (List.mem_append_left _ (List.mem_append_left _ (List.mem_append_left _ (List.mem_append_left _ (List.mem_append_left _ (List.mem_append_right _ h9)))))))))))) tyX11 tyX11_ok nmX11 hown hK hP hD hS 0 rfl rfl 8 (by decide) (hts (.fieldLink RX11 66 "SeatsRound" "parcels" "LSeatsRound$Parcels;") (List.mem_of_getElem? (i := 33) rfl)) (fun _ h9 => h9) rfl hin rfl (tyX11_ok 8 (by decide)) rfl rfl (Nat.le_of_ble_eq_true rfl) dX11_init_108 (fun H locs hP hD hS => ?_)
  have hP : va_P (dC, dI) vwCl (([(h0, .inr (11, [.ref q_1, .ref q_4, .ref q_7, .ref q_10, .ref q_13, .ref q_16, .int 0, .ref q_17, .ref q_20, .null, .null, .null, .null])), (q_16, .inl (cy 8, 10, .inr (.inr (.inr (.inr (fun _ => none))))))] : va_W) ++ pl_22) H := hP
  have hD : va_D A (([(h0, .inr (11, [.ref q_1, .ref q_4, .ref q_7, .ref q_10, .ref q_13, .ref q_16, .int 0, .ref q_17, .ref q_20, .null, .null, .null, .null])), (q_16, .inl (cy 8, 10, .inr (.inr (.inr (.inr (fun _ => none))))))] : va_W) ++ pl_22) := hD
  change W _ _ _ _ _ _ _ _ _ _ _ _ _ _ _ (F0 m 111 ls [])
  refine lv_aload_n hx hb dX11_init_111 rfl (lv_at hl 0 rfl) ?_
  refine va_new (ci := 5) (fs := [.null, .int 0, .null, .int 0, .null, .null, .null, .null, .null, .null]) (C := RX5) (T := TX5) (N := 10) hx hb hts (fun _ h9 => List.mem_cons_of_mem _ (List.mem_append_left _ (List.mem_append_left _ (List.mem_append_left _ (List.mem_append_right _ h9))))) tyX5 tyX5_ok hown (hts (.classLink RX11 70 RX5) (List.mem_of_getElem? (i := 34) rfl)) (hts (.instantiable RX5 10) (List.mem_of_getElem? (i := 35) rfl)) (hts (.initialized RX5) (List.mem_of_getElem? (i := 36) rfl)) hK hP hD hS hA rfl (fun j hj => vz_dfX5 j hj) (Nat.le_of_ble_eq_true rfl) (Nat.le_of_ble_eq_true rfl) dX11_init_112 (fun q_23 H hP hD hS => ?_)
  have hP := va_P.swap hP
  have hD := va_D.swap hD
  have hP : va_P (dC, dI) vwCl (([(h0, .inr (11, [.ref q_1, .ref q_4, .ref q_7, .ref q_10, .ref q_13, .ref q_16, .int 0, .ref q_17, .ref q_20, .null, .null, .null, .null])), (q_16, .inl (cy 8, 10, .inr (.inr (.inr (.inr (fun _ => none)))))), (q_23, .inr (5, [.null, .int 0, .null, .int 0, .null, .null, .null, .null, .null, .null]))] : va_W) ++ pl_22) H := hP
  have hD : va_D A (([(h0, .inr (11, [.ref q_1, .ref q_4, .ref q_7, .ref q_10, .ref q_13, .ref q_16, .int 0, .ref q_17, .ref q_20, .null, .null, .null, .null])), (q_16, .inl (cy 8, 10, .inr (.inr (.inr (.inr (fun _ => none)))))), (q_23, .inr (5, [.null, .int 0, .null, .int 0, .null, .null, .null, .null, .null, .null]))] : va_W) ++ pl_22) := hD
  refine W.widen (k := 135) (n := 5212) (Nat.le_of_ble_eq_true rfl) (Nat.le_of_ble_eq_true rfl) ?_
  refine lv_dup hx hb dX11_init_115 rfl ?_
  refine lv_aload_n hx hb dX11_init_116 rfl (lv_at hl 0 rfl) ?_
  refine va_get (D := (dC, dI)) (ci := 11) (v := .ref q_7) (C := RX11) (T := TX11) (N := 13) hx hb hts (fun _ h9 => List.mem_cons_of_mem _ (List.mem_append_left _ (List.mem_append_left _ (List.mem_append_left _ (List.mem_append_left _ (List.mem_append_left _ (List.mem_append_left _ (List.mem_append_left _ (List.mem_append_left _ (List.mem_append_left _ (List.mem_append_left _ (List.mem_append_right _ h9)))))))))))) hown hK hP 0 rfl rfl 2 (by decide) (hts (.fieldLink RX11 26 "SeatsRound" "keepers" "LSeatsRound$Keepers;") (List.mem_of_getElem? (i := 15) rfl)) (fun _ h9 => h9) rfl dX11_init_117 ?_
  refine lv_aload_n hx hb dX11_init_120 rfl (lv_at hl 0 rfl) ?_
  refine va_get (D := (dC, dI)) (ci := 11) (v := .ref q_4) (C := RX11) (T := TX11) (N := 13) hx hb hts (fun _ h9 => List.mem_cons_of_mem _ (List.mem_append_left _ (List.mem_append_left _ (List.mem_append_left _ (List.mem_append_left _ (List.mem_append_left _ (List.mem_append_left _ (List.mem_append_left _ (List.mem_append_left _ (List.mem_append_left _ (List.mem_append_left _ (List.mem_append_right _ h9)))))))))))) hown hK hP 0 rfl rfl 1 (by decide) (hts (.fieldLink RX11 19 "SeatsRound" "nameList" "LSeatsRound$NameList;") (List.mem_of_getElem? (i := 11) rfl)) (fun _ h9 => h9) rfl dX11_init_121 ?_
  refine lv_aload_n hx hb dX11_init_124 rfl (lv_at hl 0 rfl) ?_
  change W _ _ _ _ _ _ _ _ _ _ _ _ _ _ _ (F0 m 125 ls [.ref h0, .ref q_4, .ref q_7, .ref q_23, .ref q_23, .ref h0])
  refine va_get (D := (dC, dI)) (ci := 11) (v := .ref q_13) (C := RX11) (T := TX11) (N := 13) hx hb hts (fun _ h9 => List.mem_cons_of_mem _ (List.mem_append_left _ (List.mem_append_left _ (List.mem_append_left _ (List.mem_append_left _ (List.mem_append_left _ (List.mem_append_left _ (List.mem_append_left _ (List.mem_append_left _ (List.mem_append_left _ (List.mem_append_left _ (List.mem_append_right _ h9)))))))))))) hown hK hP 0 rfl rfl 4 (by decide) (hts (.fieldLink RX11 42 "SeatsRound" "choice" "LSeatsRound$Choice;") (List.mem_of_getElem? (i := 23) rfl)) (fun _ h9 => h9) rfl dX11_init_125 ?_
  refine lv_aload_n hx hb dX11_init_128 rfl (lv_at hl 0 rfl) ?_
  refine va_get (D := (dC, dI)) (ci := 11) (v := .ref q_10) (C := RX11) (T := TX11) (N := 13) hx hb hts (fun _ h9 => List.mem_cons_of_mem _ (List.mem_append_left _ (List.mem_append_left _ (List.mem_append_left _ (List.mem_append_left _ (List.mem_append_left _ (List.mem_append_left _ (List.mem_append_left _ (List.mem_append_left _ (List.mem_append_left _ (List.mem_append_left _ (List.mem_append_right _ h9)))))))))))) hown hK hP 0 rfl rfl 3 (by decide) (hts (.fieldLink RX11 33 "SeatsRound" "law" "LSeatsRound$Law;") (List.mem_of_getElem? (i := 19) rfl)) (fun _ h9 => h9) rfl dX11_init_129 ?_
  have hPc := hP.sub (ws' := [(q_23, .inr (5, [.null, .int 0, .null, .int 0, .null, .null, .null, .null, .null, .null]))]) [2] rfl
  have hDc := hD.sub (ws' := [(q_23, .inr (5, [.null, .int 0, .null, .int 0, .null, .null, .null, .null, .null, .null]))]) [2] (by decide +kernel) rfl
  have hFc := va_free (wc := [(q_23, .inr (5, [.null, .int 0, .null, .int 0, .null, .null, .null, .null, .null, .null]))]) hD hS hA [2] rfl
  refine va_callv (va_runI (As := [.ref q_7, .ref q_4, .ref q_13, .ref q_10]) (rest := [.ref q_23, .ref h0]) ⟨hx, hb, hml, hown, hts⟩ (i_Orders l dC dI cy q_23 q_7 q_4 q_13 q_10 H.size) (cwI 4 hts gX11_init_X5_init rfl rfl rfl (hts (.initialized RX5) (List.mem_of_getElem? (i := 36) rfl)) (hts (.methodLink RX11 72 yX5_init) (List.mem_of_getElem? (i := 133) rfl)) (hts (.instanceMethod yX5_init) (List.mem_of_getElem? (i := 134) rfl)) rfl (by decide +kernel) ⟨Nat.le_of_ble_eq_true rfl, Nat.le_of_ble_eq_true rfl⟩) (wp_S hK hN hPc hDc) rfl rfl hl.1 rfl (lv_room (Nat.le_of_ble_eq_true rfl)) dX11_init_132 ⟨Nat.le_of_ble_eq_true rfl, Nat.le_of_ble_eq_true rfl⟩) hS (fun q _ h => hFc q h) hFc (fun u_24 t H1 locs ht hvm hw_24 hB hz1 hk1 hS => ?_)
  obtain ⟨hP1, hD1⟩ := hB
  rw [ht] at hP1
  obtain ⟨hP, hD⟩ := va_joinQ (wr := [(h0, .inr (11, [.ref q_1, .ref q_4, .ref q_7, .ref q_10, .ref q_13, .ref q_16, .int 0, .ref q_17, .ref q_20, .null, .null, .null, .null])), (q_16, .inl (cy 8, 10, .inr (.inr (.inr (.inr (fun _ => none))))))]) (w1 := (([(q_23, .inr (5, [.ref (u_24 0 0), .int 0, .ref (u_24 0 1), .int 0, .ref (u_24 0 2), .ref (u_24 0 3), .ref q_7, .ref q_4, .ref q_13, .ref q_10])), ((u_24 0 0), .inl (cy 0, 5, .inl (fun _ => 0))), ((u_24 0 1), .inl (cy 0, 5, .inl (fun _ => 0))), ((u_24 0 2), .inl (cy 6, 32, .inr (.inr (.inr (.inr (fun i => if i < 32 then some ((u_24 1) i) else none)))))), ((u_24 0 3), .inl (cy 0, 32, .inl (fun _ => 0)))] : va_W) ++ ((List.range 32).map (fun i => (((u_24 1) i, .inl (cy 0, 40, .inl (fun _ => 0))) : Nat × va_E))))) hP hD [2] [0, 1] rfl rfl (by decide +kernel) (by decide +kernel) hk1 hFc hP1 hD1
  have hP := wz_KP hP
  have hD := wz_KD hD
  obtain ⟨pl_25, epl_25⟩ : ∃ x : va_W, x = ((([(q_23, .inr (5, [.ref (u_24 0 0), .int 0, .ref (u_24 0 1), .int 0, .ref (u_24 0 2), .ref (u_24 0 3), .ref q_7, .ref q_4, .ref q_13, .ref q_10])), ((u_24 0 0), .inl (cy 0, 5, .inl (fun _ => 0))), ((u_24 0 1), .inl (cy 0, 5, .inl (fun _ => 0))), ((u_24 0 2), .inl (cy 6, 32, .inr (.inr (.inr (.inr (fun i => if i < 32 then some ((u_24 1) i) else none)))))), ((u_24 0 3), .inl (cy 0, 32, .inl (fun _ => 0)))] : va_W) ++ ((List.range 32).map (fun i => (((u_24 1) i, .inl (cy 0, 40, .inl (fun _ => 0))) : Nat × va_E)))) ++ pl_22) := ⟨_, rfl⟩
  rw [← epl_25] at hP hD
  generalize H1 = H at hP hS ⊢
  have hP : va_P (dC, dI) vwCl (([(h0, .inr (11, [.ref q_1, .ref q_4, .ref q_7, .ref q_10, .ref q_13, .ref q_16, .int 0, .ref q_17, .ref q_20, .null, .null, .null, .null])), (q_16, .inl (cy 8, 10, .inr (.inr (.inr (.inr (fun _ => none))))))] : va_W) ++ pl_25) H := hP
  have hD : va_D A (([(h0, .inr (11, [.ref q_1, .ref q_4, .ref q_7, .ref q_10, .ref q_13, .ref q_16, .int 0, .ref q_17, .ref q_20, .null, .null, .null, .null])), (q_16, .inl (cy 8, 10, .inr (.inr (.inr (.inr (fun _ => none))))))] : va_W) ++ pl_25) := hD
  refine W.widen (k := 171) (n := 6566) (Nat.le_of_ble_eq_true rfl) (Nat.le_of_ble_eq_true rfl) ?_
  refine va_putF (D := (dC, dI)) (ci := 11) (v := .ref q_23) (C := RX11) (T := TX11) (N := 13) hx hb hts (fun _ h9 => List.mem_cons_of_mem _ (List.mem_append_left _ (List.mem_append_left _ (List.mem_append_left _ (List.mem_append_left _ (List.mem_append_left _ (List.mem_append_left _ (List.mem_append_left _ (List.mem_append_left _ (List.mem_append_left _ (List.mem_append_left _ (List.mem_append_right _ h9)))))))))))) tyX11 tyX11_ok nmX11 hown hK hP hD hS 0 rfl rfl 9 (by decide) (hts (.fieldLink RX11 75 "SeatsRound" "orders" "LSeatsRound$Orders;") (List.mem_of_getElem? (i := 37) rfl)) (fun _ h9 => h9) rfl hin rfl (tyX11_ok 9 (by decide)) rfl rfl (Nat.le_of_ble_eq_true rfl) dX11_init_135 (fun H locs hP hD hS => ?_)
  have hP : va_P (dC, dI) vwCl (([(h0, .inr (11, [.ref q_1, .ref q_4, .ref q_7, .ref q_10, .ref q_13, .ref q_16, .int 0, .ref q_17, .ref q_20, .ref q_23, .null, .null, .null])), (q_16, .inl (cy 8, 10, .inr (.inr (.inr (.inr (fun _ => none))))))] : va_W) ++ pl_25) H := hP
  have hD : va_D A (([(h0, .inr (11, [.ref q_1, .ref q_4, .ref q_7, .ref q_10, .ref q_13, .ref q_16, .int 0, .ref q_17, .ref q_20, .ref q_23, .null, .null, .null])), (q_16, .inl (cy 8, 10, .inr (.inr (.inr (.inr (fun _ => none))))))] : va_W) ++ pl_25) := hD
  refine lv_aload_n hx hb dX11_init_138 rfl (lv_at hl 0 rfl) ?_
  refine va_new (ci := 10) (fs := [.null, .int 0, .int 0, .null, .null]) (C := RX10) (T := TX10) (N := 5) hx hb hts (fun _ h9 => List.mem_cons_of_mem _ (List.mem_append_left _ (List.mem_append_left _ (List.mem_append_right _ h9)))) tyX10 tyX10_ok hown (hts (.classLink RX11 79 RX10) (List.mem_of_getElem? (i := 38) rfl)) (hts (.instantiable RX10 5) (List.mem_of_getElem? (i := 39) rfl)) (hts (.initialized RX10) (List.mem_of_getElem? (i := 40) rfl)) hK hP hD hS hA rfl (fun j hj => vz_dfX10 j hj) (Nat.le_of_ble_eq_true rfl) (Nat.le_of_ble_eq_true rfl) dX11_init_139 (fun q_26 H hP hD hS => ?_)
  have hP := va_P.swap hP
  have hD := va_D.swap hD
  have hP : va_P (dC, dI) vwCl (([(h0, .inr (11, [.ref q_1, .ref q_4, .ref q_7, .ref q_10, .ref q_13, .ref q_16, .int 0, .ref q_17, .ref q_20, .ref q_23, .null, .null, .null])), (q_16, .inl (cy 8, 10, .inr (.inr (.inr (.inr (fun _ => none)))))), (q_26, .inr (10, [.null, .int 0, .int 0, .null, .null]))] : va_W) ++ pl_25) H := hP
  have hD : va_D A (([(h0, .inr (11, [.ref q_1, .ref q_4, .ref q_7, .ref q_10, .ref q_13, .ref q_16, .int 0, .ref q_17, .ref q_20, .ref q_23, .null, .null, .null])), (q_16, .inl (cy 8, 10, .inr (.inr (.inr (.inr (fun _ => none)))))), (q_26, .inr (10, [.null, .int 0, .int 0, .null, .null]))] : va_W) ++ pl_25) := hD
  refine W.widen (k := 172) (n := 6571) (Nat.le_of_ble_eq_true rfl) (Nat.le_of_ble_eq_true rfl) ?_
  refine lv_dup hx hb dX11_init_142 rfl ?_
  change W _ _ _ _ _ _ _ _ _ _ _ _ _ _ _ (F0 m 143 ls [.ref q_26, .ref q_26, .ref h0])
  refine lv_aload_n hx hb dX11_init_143 rfl (lv_at hl 0 rfl) ?_
  refine va_get (D := (dC, dI)) (ci := 11) (v := .ref q_4) (C := RX11) (T := TX11) (N := 13) hx hb hts (fun _ h9 => List.mem_cons_of_mem _ (List.mem_append_left _ (List.mem_append_left _ (List.mem_append_left _ (List.mem_append_left _ (List.mem_append_left _ (List.mem_append_left _ (List.mem_append_left _ (List.mem_append_left _ (List.mem_append_left _ (List.mem_append_left _ (List.mem_append_right _ h9)))))))))))) hown hK hP 0 rfl rfl 1 (by decide) (hts (.fieldLink RX11 19 "SeatsRound" "nameList" "LSeatsRound$NameList;") (List.mem_of_getElem? (i := 11) rfl)) (fun _ h9 => h9) rfl dX11_init_144 ?_
  have hPc := hP.sub (ws' := [(q_26, .inr (10, [.null, .int 0, .int 0, .null, .null]))]) [2] rfl
  have hDc := hD.sub (ws' := [(q_26, .inr (10, [.null, .int 0, .int 0, .null, .null]))]) [2] (by decide +kernel) rfl
  have hFc := va_free (wc := [(q_26, .inr (10, [.null, .int 0, .int 0, .null, .null]))]) hD hS hA [2] rfl
  refine va_callv (va_runI (As := [.ref q_4]) (rest := [.ref q_26, .ref h0]) ⟨hx, hb, hml, hown, hts⟩ (i_Turnings l dC dI cy q_26 q_4 H.size) (cwI 1 hts gX11_init_X10_init rfl rfl rfl (hts (.initialized RX10) (List.mem_of_getElem? (i := 40) rfl)) (hts (.methodLink RX11 81 yX10_init) (List.mem_of_getElem? (i := 148) rfl)) (hts (.instanceMethod yX10_init) (List.mem_of_getElem? (i := 149) rfl)) rfl (by decide +kernel) ⟨Nat.le_of_ble_eq_true rfl, Nat.le_of_ble_eq_true rfl⟩) (wp_S hK hN hPc hDc) rfl rfl hl.1 rfl (lv_room (Nat.le_of_ble_eq_true rfl)) dX11_init_147 ⟨Nat.le_of_ble_eq_true rfl, Nat.le_of_ble_eq_true rfl⟩) hS (fun q _ h => hFc q h) hFc (fun u_27 t H1 locs ht hvm hw_27 hB hz1 hk1 hS => ?_)
  obtain ⟨hP1, hD1⟩ := hB
  rw [ht] at hP1
  obtain ⟨hP, hD⟩ := va_joinQ (wr := [(h0, .inr (11, [.ref q_1, .ref q_4, .ref q_7, .ref q_10, .ref q_13, .ref q_16, .int 0, .ref q_17, .ref q_20, .ref q_23, .null, .null, .null])), (q_16, .inl (cy 8, 10, .inr (.inr (.inr (.inr (fun _ => none))))))]) (w1 := [(q_26, .inr (10, [.ref (u_27 0 0), .int 0, .int (-1), .ref (u_27 0 1), .ref q_4])), ((u_27 0 0), .inl (cy 0, 6, .inl (fun _ => 0))), ((u_27 0 1), .inl (cy 0, 12, .inl (fun _ => 0)))]) hP hD [2] [0, 1] rfl rfl (by decide +kernel) (by decide +kernel) hk1 hFc hP1 hD1
  have hP := wz_KP hP
  have hD := wz_KD hD
  obtain ⟨pl_28, epl_28⟩ : ∃ x : va_W, x = (([(q_26, .inr (10, [.ref (u_27 0 0), .int 0, .int (-1), .ref (u_27 0 1), .ref q_4])), ((u_27 0 0), .inl (cy 0, 6, .inl (fun _ => 0))), ((u_27 0 1), .inl (cy 0, 12, .inl (fun _ => 0)))] : va_W) ++ pl_25) := ⟨_, rfl⟩
  rw [← epl_28] at hP hD
  generalize H1 = H at hP hS ⊢
  have hP : va_P (dC, dI) vwCl (([(h0, .inr (11, [.ref q_1, .ref q_4, .ref q_7, .ref q_10, .ref q_13, .ref q_16, .int 0, .ref q_17, .ref q_20, .ref q_23, .null, .null, .null])), (q_16, .inl (cy 8, 10, .inr (.inr (.inr (.inr (fun _ => none))))))] : va_W) ++ pl_28) H := hP
  have hD : va_D A (([(h0, .inr (11, [.ref q_1, .ref q_4, .ref q_7, .ref q_10, .ref q_13, .ref q_16, .int 0, .ref q_17, .ref q_20, .ref q_23, .null, .null, .null])), (q_16, .inl (cy 8, 10, .inr (.inr (.inr (.inr (fun _ => none))))))] : va_W) ++ pl_28) := hD
  refine W.widen (k := 174) (n := 6589) (Nat.le_of_ble_eq_true rfl) (Nat.le_of_ble_eq_true rfl) ?_
  refine va_putF (D := (dC, dI)) (ci := 11) (v := .ref q_26) (C := RX11) (T := TX11) (N := 13) hx hb hts (fun _ h9 => List.mem_cons_of_mem _ (List.mem_append_left _ (List.mem_append_left _ (List.mem_append_left _ (List.mem_append_left _ (List.mem_append_left _ (List.mem_append_left _ (List.mem_append_left _ (List.mem_append_left _ (List.mem_append_left _ (List.mem_append_left _ (List.mem_append_right _ h9)))))))))))) tyX11 tyX11_ok nmX11 hown hK hP hD hS 0 rfl rfl 10 (by decide) (hts (.fieldLink RX11 84 "SeatsRound" "turnings" "LSeatsRound$Turnings;") (List.mem_of_getElem? (i := 41) rfl)) (fun _ h9 => h9) rfl hin rfl (tyX11_ok 10 (by decide)) rfl rfl (Nat.le_of_ble_eq_true rfl) dX11_init_150 (fun H locs hP hD hS => ?_)
  have hP : va_P (dC, dI) vwCl (([(h0, .inr (11, [.ref q_1, .ref q_4, .ref q_7, .ref q_10, .ref q_13, .ref q_16, .int 0, .ref q_17, .ref q_20, .ref q_23, .ref q_26, .null, .null])), (q_16, .inl (cy 8, 10, .inr (.inr (.inr (.inr (fun _ => none))))))] : va_W) ++ pl_28) H := hP
  have hD : va_D A (([(h0, .inr (11, [.ref q_1, .ref q_4, .ref q_7, .ref q_10, .ref q_13, .ref q_16, .int 0, .ref q_17, .ref q_20, .ref q_23, .ref q_26, .null, .null])), (q_16, .inl (cy 8, 10, .inr (.inr (.inr (.inr (fun _ => none))))))] : va_W) ++ pl_28) := hD
  refine lv_aload_n hx hb dX11_init_153 rfl (lv_at hl 0 rfl) ?_
  refine va_new (ci := 0) (fs := [.null, .int 0, .int 0, .int 0, .int 0]) (C := RX0) (T := TX0) (N := 5) hx hb hts (fun _ h9 => List.mem_cons_of_mem _ (List.mem_append_left _ (List.mem_append_right _ h9))) tyX0 tyX0_ok hown (hts (.classLink RX11 88 RX0) (List.mem_of_getElem? (i := 42) rfl)) (hts (.instantiable RX0 5) (List.mem_of_getElem? (i := 43) rfl)) (hts (.initialized RX0) (List.mem_of_getElem? (i := 44) rfl)) hK hP hD hS hA rfl (fun j hj => vz_dfX0 j hj) (Nat.le_of_ble_eq_true rfl) (Nat.le_of_ble_eq_true rfl) dX11_init_154 (fun q_29 H hP hD hS => ?_)
  have hP := va_P.swap hP
  have hD := va_D.swap hD
  have hP : va_P (dC, dI) vwCl (([(h0, .inr (11, [.ref q_1, .ref q_4, .ref q_7, .ref q_10, .ref q_13, .ref q_16, .int 0, .ref q_17, .ref q_20, .ref q_23, .ref q_26, .null, .null])), (q_16, .inl (cy 8, 10, .inr (.inr (.inr (.inr (fun _ => none)))))), (q_29, .inr (0, [.null, .int 0, .int 0, .int 0, .int 0]))] : va_W) ++ pl_28) H := hP
  have hD : va_D A (([(h0, .inr (11, [.ref q_1, .ref q_4, .ref q_7, .ref q_10, .ref q_13, .ref q_16, .int 0, .ref q_17, .ref q_20, .ref q_23, .ref q_26, .null, .null])), (q_16, .inl (cy 8, 10, .inr (.inr (.inr (.inr (fun _ => none)))))), (q_29, .inr (0, [.null, .int 0, .int 0, .int 0, .int 0]))] : va_W) ++ pl_28) := hD
  refine W.widen (k := 175) (n := 6594) (Nat.le_of_ble_eq_true rfl) (Nat.le_of_ble_eq_true rfl) ?_
  refine lv_dup hx hb dX11_init_157 rfl ?_
  have hPc := hP.sub (ws' := [(q_29, .inr (0, [.null, .int 0, .int 0, .int 0, .int 0]))]) [2] rfl
  have hDc := hD.sub (ws' := [(q_29, .inr (0, [.null, .int 0, .int 0, .int 0, .int 0]))]) [2] (by decide +kernel) rfl
  have hFc := va_free (wc := [(q_29, .inr (0, [.null, .int 0, .int 0, .int 0, .int 0]))]) hD hS hA [2] rfl
  refine va_callv (va_runIN (As := []) (rest := [.ref q_29, .ref h0]) ⟨hx, hb, hml, hown, hts⟩ (i_Acts l dC dI cy q_29 H.size) ⟨va_cnB 0 hts gX11_init_X0_init_n90 rfl rfl rfl (hN.1 _ (List.mem_of_getElem? (i := 5) rfl)) (hts (.initialized RX0) (List.mem_of_getElem? (i := 44) rfl)) (by decide +kernel) ⟨Nat.le_of_ble_eq_true rfl, Nat.le_of_ble_eq_true rfl⟩, rfl, (hts (.instanceMethod yX0_init) (List.mem_of_getElem? (i := 157) rfl))⟩ (wp_S hK hN hPc hDc) rfl rfl hl.1 rfl (lv_room (Nat.le_of_ble_eq_true rfl)) dX11_init_158 ⟨Nat.le_of_ble_eq_true rfl, Nat.le_of_ble_eq_true rfl⟩) hS (fun q _ h => hFc q h) hFc (fun u_30 t H1 locs ht hvm hw_30 hB hz1 hk1 hS => ?_)
  obtain ⟨hP1, hD1⟩ := hB
  rw [ht] at hP1
  obtain ⟨hP, hD⟩ := va_joinQ (wr := [(h0, .inr (11, [.ref q_1, .ref q_4, .ref q_7, .ref q_10, .ref q_13, .ref q_16, .int 0, .ref q_17, .ref q_20, .ref q_23, .ref q_26, .null, .null])), (q_16, .inl (cy 8, 10, .inr (.inr (.inr (.inr (fun _ => none))))))]) (w1 := [(q_29, .inr (0, [.ref (u_30 0 0), .int 0, .int 0, .int 0, .int 0])), ((u_30 0 0), .inl (cy 0, 24, .inl (fun _ => 0)))]) hP hD [2] [0, 1] rfl rfl (by decide +kernel) (by decide +kernel) hk1 hFc hP1 hD1
  have hP := wz_KP hP
  have hD := wz_KD hD
  obtain ⟨pl_31, epl_31⟩ : ∃ x : va_W, x = (([(q_29, .inr (0, [.ref (u_30 0 0), .int 0, .int 0, .int 0, .int 0])), ((u_30 0 0), .inl (cy 0, 24, .inl (fun _ => 0)))] : va_W) ++ pl_28) := ⟨_, rfl⟩
  rw [← epl_31] at hP hD
  generalize H1 = H at hP hS ⊢
  have hP : va_P (dC, dI) vwCl (([(h0, .inr (11, [.ref q_1, .ref q_4, .ref q_7, .ref q_10, .ref q_13, .ref q_16, .int 0, .ref q_17, .ref q_20, .ref q_23, .ref q_26, .null, .null])), (q_16, .inl (cy 8, 10, .inr (.inr (.inr (.inr (fun _ => none))))))] : va_W) ++ pl_31) H := hP
  have hD : va_D A (([(h0, .inr (11, [.ref q_1, .ref q_4, .ref q_7, .ref q_10, .ref q_13, .ref q_16, .int 0, .ref q_17, .ref q_20, .ref q_23, .ref q_26, .null, .null])), (q_16, .inl (cy 8, 10, .inr (.inr (.inr (.inr (fun _ => none))))))] : va_W) ++ pl_31) := hD
  refine W.widen (k := 176) (n := 6618) (Nat.le_of_ble_eq_true rfl) (Nat.le_of_ble_eq_true rfl) ?_
  change W _ _ _ _ _ _ _ _ _ _ _ _ _ _ _ (F0 m 161 ls [.ref q_29, .ref h0])
  refine va_putF (D := (dC, dI)) (ci := 11) (v := .ref q_29) (C := RX11) (T := TX11) (N := 13) hx hb hts (fun _ h9 => List.mem_cons_of_mem _ (List.mem_append_left _ (List.mem_append_left _ (List.mem_append_left _ (List.mem_append_left _ (List.mem_append_left _ (List.mem_append_left _ (List.mem_append_left _ (List.mem_append_left _ (List.mem_append_left _ (List.mem_append_left _ (List.mem_append_right _ h9)))))))))))) tyX11 tyX11_ok nmX11 hown hK hP hD hS 0 rfl rfl 11 (by decide) (hts (.fieldLink RX11 91 "SeatsRound" "acts" "LSeatsRound$Acts;") (List.mem_of_getElem? (i := 45) rfl)) (fun _ h9 => h9) rfl hin rfl (tyX11_ok 11 (by decide)) rfl rfl (Nat.le_of_ble_eq_true rfl) dX11_init_161 (fun H locs hP hD hS => ?_)
  have hP : va_P (dC, dI) vwCl (([(h0, .inr (11, [.ref q_1, .ref q_4, .ref q_7, .ref q_10, .ref q_13, .ref q_16, .int 0, .ref q_17, .ref q_20, .ref q_23, .ref q_26, .ref q_29, .null])), (q_16, .inl (cy 8, 10, .inr (.inr (.inr (.inr (fun _ => none))))))] : va_W) ++ pl_31) H := hP
  have hD : va_D A (([(h0, .inr (11, [.ref q_1, .ref q_4, .ref q_7, .ref q_10, .ref q_13, .ref q_16, .int 0, .ref q_17, .ref q_20, .ref q_23, .ref q_26, .ref q_29, .null])), (q_16, .inl (cy 8, 10, .inr (.inr (.inr (.inr (fun _ => none))))))] : va_W) ++ pl_31) := hD
  refine lv_aload_n hx hb dX11_init_164 rfl (lv_at hl 0 rfl) ?_
  refine va_new (ci := 7) (fs := [.null, .null, .null, .null]) (C := RX7) (T := TX7) (N := 4) hx hb hts (fun _ h9 => List.mem_cons_of_mem _ (List.mem_append_right _ h9)) tyX7 tyX7_ok hown (hts (.classLink RX11 95 RX7) (List.mem_of_getElem? (i := 46) rfl)) (hts (.instantiable RX7 4) (List.mem_of_getElem? (i := 47) rfl)) (hts (.initialized RX7) (List.mem_of_getElem? (i := 48) rfl)) hK hP hD hS hA rfl (fun j hj => vz_dfX7 j hj) (Nat.le_of_ble_eq_true rfl) (Nat.le_of_ble_eq_true rfl) dX11_init_165 (fun q_32 H hP hD hS => ?_)
  have hP := va_P.swap hP
  have hD := va_D.swap hD
  have hP : va_P (dC, dI) vwCl (([(h0, .inr (11, [.ref q_1, .ref q_4, .ref q_7, .ref q_10, .ref q_13, .ref q_16, .int 0, .ref q_17, .ref q_20, .ref q_23, .ref q_26, .ref q_29, .null])), (q_16, .inl (cy 8, 10, .inr (.inr (.inr (.inr (fun _ => none)))))), (q_32, .inr (7, [.null, .null, .null, .null]))] : va_W) ++ pl_31) H := hP
  have hD : va_D A (([(h0, .inr (11, [.ref q_1, .ref q_4, .ref q_7, .ref q_10, .ref q_13, .ref q_16, .int 0, .ref q_17, .ref q_20, .ref q_23, .ref q_26, .ref q_29, .null])), (q_16, .inl (cy 8, 10, .inr (.inr (.inr (.inr (fun _ => none)))))), (q_32, .inr (7, [.null, .null, .null, .null]))] : va_W) ++ pl_31) := hD
  refine W.widen (k := 177) (n := 6622) (Nat.le_of_ble_eq_true rfl) (Nat.le_of_ble_eq_true rfl) ?_
  refine lv_dup hx hb dX11_init_168 rfl ?_
  have hPc := hP.sub (ws' := [(q_32, .inr (7, [.null, .null, .null, .null]))]) [2] rfl
  have hDc := hD.sub (ws' := [(q_32, .inr (7, [.null, .null, .null, .null]))]) [2] (by decide +kernel) rfl
  have hFc := va_free (wc := [(q_32, .inr (7, [.null, .null, .null, .null]))]) hD hS hA [2] rfl
  refine va_callv (va_runI (As := []) (rest := [.ref q_32, .ref h0]) ⟨hx, hb, hml, hown, hts⟩ (i_Rows l dC dI cy q_32 H.size) (cwI 0 hts gX11_init_X7_init rfl rfl rfl (hts (.initialized RX7) (List.mem_of_getElem? (i := 48) rfl)) (hts (.methodLink RX11 97 yX7_init) (List.mem_of_getElem? (i := 165) rfl)) (hts (.instanceMethod yX7_init) (List.mem_of_getElem? (i := 166) rfl)) rfl (by decide +kernel) ⟨Nat.le_of_ble_eq_true rfl, Nat.le_of_ble_eq_true rfl⟩) (wp_S hK hN hPc hDc) rfl rfl hl.1 rfl (lv_room (Nat.le_of_ble_eq_true rfl)) dX11_init_169 ⟨Nat.le_of_ble_eq_true rfl, Nat.le_of_ble_eq_true rfl⟩) hS (fun q _ h => hFc q h) hFc (fun u_33 t H1 locs ht hvm hw_33 hB hz1 hk1 hS => ?_)
  obtain ⟨hP1, hD1⟩ := hB
  rw [ht] at hP1
  obtain ⟨hP, hD⟩ := va_joinQ (wr := [(h0, .inr (11, [.ref q_1, .ref q_4, .ref q_7, .ref q_10, .ref q_13, .ref q_16, .int 0, .ref q_17, .ref q_20, .ref q_23, .ref q_26, .ref q_29, .null])), (q_16, .inl (cy 8, 10, .inr (.inr (.inr (.inr (fun _ => none))))))]) (w1 := (([(q_32, .inr (7, [.ref (u_33 0 0), .ref (u_33 0 1), .ref (u_33 0 2), .ref (u_33 0 3)])), ((u_33 0 2), .inl (cy 0, 6, .inl (fun _ => 0))), ((u_33 0 3), .inl (cy 7, 6, .inr (.inr (.inr (.inr (fun i => if i < 6 then some ((u_33 1) i) else none)))))), ((u_33 0 0), .inl (cy 0, 6, .inl (fun _ => (-1)))), ((u_33 0 1), .inl (cy 0, 6, .inl (fun _ => (-1))))] : va_W) ++ ((List.range 6).map (fun i => (((u_33 1) i, .inl (cy 4, 60, .inr (.inl (fun _ => 0)))) : Nat × va_E))))) hP hD [2] [0, 1] rfl rfl (by decide +kernel) (by decide +kernel) hk1 hFc hP1 hD1
  have hP := wz_KP hP
  have hD := wz_KD hD
  obtain ⟨pl_34, epl_34⟩ : ∃ x : va_W, x = ((([(q_32, .inr (7, [.ref (u_33 0 0), .ref (u_33 0 1), .ref (u_33 0 2), .ref (u_33 0 3)])), ((u_33 0 2), .inl (cy 0, 6, .inl (fun _ => 0))), ((u_33 0 3), .inl (cy 7, 6, .inr (.inr (.inr (.inr (fun i => if i < 6 then some ((u_33 1) i) else none)))))), ((u_33 0 0), .inl (cy 0, 6, .inl (fun _ => (-1)))), ((u_33 0 1), .inl (cy 0, 6, .inl (fun _ => (-1))))] : va_W) ++ ((List.range 6).map (fun i => (((u_33 1) i, .inl (cy 4, 60, .inr (.inl (fun _ => 0)))) : Nat × va_E)))) ++ pl_31) := ⟨_, rfl⟩
  rw [← epl_34] at hP hD
  generalize H1 = H at hP hS ⊢
  have hP : va_P (dC, dI) vwCl (([(h0, .inr (11, [.ref q_1, .ref q_4, .ref q_7, .ref q_10, .ref q_13, .ref q_16, .int 0, .ref q_17, .ref q_20, .ref q_23, .ref q_26, .ref q_29, .null])), (q_16, .inl (cy 8, 10, .inr (.inr (.inr (.inr (fun _ => none))))))] : va_W) ++ pl_34) H := hP
  have hD : va_D A (([(h0, .inr (11, [.ref q_1, .ref q_4, .ref q_7, .ref q_10, .ref q_13, .ref q_16, .int 0, .ref q_17, .ref q_20, .ref q_23, .ref q_26, .ref q_29, .null])), (q_16, .inl (cy 8, 10, .inr (.inr (.inr (.inr (fun _ => none))))))] : va_W) ++ pl_34) := hD
  refine W.widen (k := 187) (n := 7006) (Nat.le_of_ble_eq_true rfl) (Nat.le_of_ble_eq_true rfl) ?_
  refine va_putF (D := (dC, dI)) (ci := 11) (v := .ref q_32) (C := RX11) (T := TX11) (N := 13) hx hb hts (fun _ h9 => List.mem_cons_of_mem _ (List.mem_append_left _ (List.mem_append_left _ (List.mem_append_left _ (List.mem_append_left _ (List.mem_append_left _ (List.mem_append_left _ (List.mem_append_left _ (List.mem_append_left _ (List.mem_append_left _ (List.mem_append_left _ (List.mem_append_right _ h9)))))))))))) tyX11 tyX11_ok nmX11 hown hK hP hD hS 0 rfl rfl 12 (by decide) (hts (.fieldLink RX11 98 "SeatsRound" "rows" "LSeatsRound$Rows;") (List.mem_of_getElem? (i := 49) rfl)) (fun _ h9 => h9) rfl hin rfl (tyX11_ok 12 (by decide)) rfl rfl (Nat.le_of_ble_eq_true rfl) dX11_init_172 (fun H locs hP hD hS => ?_)
  have hP : va_P (dC, dI) vwCl (([(h0, .inr (11, [.ref q_1, .ref q_4, .ref q_7, .ref q_10, .ref q_13, .ref q_16, .int 0, .ref q_17, .ref q_20, .ref q_23, .ref q_26, .ref q_29, .ref q_32])), (q_16, .inl (cy 8, 10, .inr (.inr (.inr (.inr (fun _ => none))))))] : va_W) ++ pl_34) H := hP
  have hD : va_D A (([(h0, .inr (11, [.ref q_1, .ref q_4, .ref q_7, .ref q_10, .ref q_13, .ref q_16, .int 0, .ref q_17, .ref q_20, .ref q_23, .ref q_26, .ref q_29, .ref q_32])), (q_16, .inl (cy 8, 10, .inr (.inr (.inr (.inr (fun _ => none))))))] : va_W) ++ pl_34) := hD
  rw [epl_34, epl_31, epl_28, epl_25, epl_22, epl_19, epl_15, epl_12, epl_9, epl_6, epl_3] at hP hD
  have hP : va_P (dC, dI) vwCl (([(h0, .inr (11, [.ref q_1, .ref q_4, .ref q_7, .ref q_10, .ref q_13, .ref q_16, .int 0, .ref q_17, .ref q_20, .ref q_23, .ref q_26, .ref q_29, .ref q_32])), (q_16, .inl (cy 8, 10, .inr (.inr (.inr (.inr (fun _ => none))))))] : va_W) ++ ((([(q_32, .inr (7, [.ref (u_33 0 0), .ref (u_33 0 1), .ref (u_33 0 2), .ref (u_33 0 3)])), ((u_33 0 2), .inl (cy 0, 6, .inl (fun _ => 0))), ((u_33 0 3), .inl (cy 7, 6, .inr (.inr (.inr (.inr (fun i => if i < 6 then some ((u_33 1) i) else none)))))), ((u_33 0 0), .inl (cy 0, 6, .inl (fun _ => (-1)))), ((u_33 0 1), .inl (cy 0, 6, .inl (fun _ => (-1))))] : va_W) ++ ((List.range 6).map (fun i => (((u_33 1) i, .inl (cy 4, 60, .inr (.inl (fun _ => 0)))) : Nat × va_E)))) ++ (([(q_29, .inr (0, [.ref (u_30 0 0), .int 0, .int 0, .int 0, .int 0])), ((u_30 0 0), .inl (cy 0, 24, .inl (fun _ => 0)))] : va_W) ++ (([(q_26, .inr (10, [.ref (u_27 0 0), .int 0, .int (-1), .ref (u_27 0 1), .ref q_4])), ((u_27 0 0), .inl (cy 0, 6, .inl (fun _ => 0))), ((u_27 0 1), .inl (cy 0, 12, .inl (fun _ => 0)))] : va_W) ++ ((([(q_23, .inr (5, [.ref (u_24 0 0), .int 0, .ref (u_24 0 1), .int 0, .ref (u_24 0 2), .ref (u_24 0 3), .ref q_7, .ref q_4, .ref q_13, .ref q_10])), ((u_24 0 0), .inl (cy 0, 5, .inl (fun _ => 0))), ((u_24 0 1), .inl (cy 0, 5, .inl (fun _ => 0))), ((u_24 0 2), .inl (cy 6, 32, .inr (.inr (.inr (.inr (fun i => if i < 32 then some ((u_24 1) i) else none)))))), ((u_24 0 3), .inl (cy 0, 32, .inl (fun _ => 0)))] : va_W) ++ ((List.range 32).map (fun i => (((u_24 1) i, .inl (cy 0, 40, .inl (fun _ => 0))) : Nat × va_E)))) ++ ((([(q_20, .inr (6, [.ref (u_21 0 0), .ref (u_21 0 1), .ref (u_21 0 2), .ref (u_21 0 3), .ref (u_21 0 4), .ref (u_21 0 5), .ref (u_21 0 6), .ref (u_21 0 7), .int 0, .ref q_7, .ref q_4, .ref q_13])), ((u_21 0 0), .inl (cy 6, 12, .inr (.inr (.inr (.inr (fun i => if i < 12 then some ((u_21 5) i) else none)))))), ((u_21 0 1), .inl (cy 6, 12, .inr (.inr (.inr (.inr (fun i => if i < 12 then some ((u_21 4) i) else none)))))), ((u_21 0 2), .inl (cy 6, 12, .inr (.inr (.inr (.inr (fun i => if i < 12 then some ((u_21 3) i) else none)))))), ((u_21 0 3), .inl (cy 6, 12, .inr (.inr (.inr (.inr (fun i => if i < 12 then some ((u_21 2) i) else none)))))), ((u_21 0 4), .inl (cy 6, 12, .inr (.inr (.inr (.inr (fun i => if i < 12 then some ((u_21 1) i) else none)))))), ((u_21 0 5), .inl (cy 0, 40, .inl (fun _ => 0))), ((u_21 0 6), .inl (cy 0, 16, .inl (fun _ => 0))), ((u_21 0 7), .inl (cy 0, 16, .inl (fun _ => 0)))] : va_W) ++ (((List.range 12).map (fun i => (((u_21 1) i, .inl (cy 0, 40, .inl (fun _ => 0))) : Nat × va_E))) ++ (((List.range 12).map (fun i => (((u_21 2) i, .inl (cy 0, 40, .inl (fun _ => 0))) : Nat × va_E))) ++ (((List.range 12).map (fun i => (((u_21 3) i, .inl (cy 0, 40, .inl (fun _ => 0))) : Nat × va_E))) ++ (((List.range 12).map (fun i => (((u_21 4) i, .inl (cy 0, 40, .inl (fun _ => 0))) : Nat × va_E))) ++ ((List.range 12).map (fun i => (((u_21 5) i, .inl (cy 0, 40, .inl (fun _ => 0))) : Nat × va_E)))))))) ++ (([(q_17, .inr (8, [.int 0, .int 0, .int 1, .int 1, .int 0, .int 0, .int 0, .int 0, .ref (u_18 0 0), .ref (u_18 0 1), .ref (u_18 0 2), .ref (u_18 0 3), .ref (u_18 0 4)])), ((u_18 0 0), .inl (cy 0, 12, .inl (fun _ => 0))), ((u_18 0 1), .inl (cy 0, 12, .inl (fun _ => 0))), ((u_18 0 2), .inl (cy 1, 80, .inl (fun _ => 0))), ((u_18 0 3), .inl (cy 1, 1000, .inl (fun _ => 0))), ((u_18 0 4), .inl (cy 3, 1000, .inl (fun _ => 0)))] : va_W) ++ (([(q_13, .inr (1, [.ref (u_14 0 0), .ref (u_14 0 1), .int 0, .int 0, .int 0, .int 0, .int 0, .ref (u_14 0 2), .ref q_7])), ((u_14 0 0), .inl (cy 0, 12, .inl (fun _ => 0))), ((u_14 0 1), .inl (cy 0, 12, .inl (fun _ => 0))), ((u_14 0 2), .inl (cy 0, 12, .inl (fun _ => 0)))] : va_W) ++ (([(q_10, .inr (3, [.ref (u_11 0 0), .int 0, .int 0, .int (-1), .int 0, .int 0, .int 0, .int 0])), ((u_11 0 0), .inl (cy 1, 0, .inl (fun _ => 0)))] : va_W) ++ (([(q_7, .inr (2, [.ref (u_8 0 0), .ref (u_8 0 1), .ref (u_8 0 2), .ref (u_8 0 3), .ref (u_8 0 4), .int 0])), ((u_8 0 0), .inl (cy 0, 12, .inl (fun _ => 0))), ((u_8 0 1), .inl (cy 0, 12, .inl (fun _ => 0))), ((u_8 0 2), .inl (cy 0, 12, .inl (fun _ => 0))), ((u_8 0 3), .inl (cy 0, 12, .inl (fun _ => 0))), ((u_8 0 4), .inl (cy 2, 12, .inl (fun _ => 0)))] : va_W) ++ ((([(q_4, .inr (4, [.ref (u_5 0 0), .ref (u_5 0 1), .ref (u_5 0 2), .int 0])), ((u_5 0 0), .inl (cy 5, 40, .inr (.inr (.inr (.inr (fun i => if i < 40 then some ((u_5 1) i) else none)))))), ((u_5 0 1), .inl (cy 0, 40, .inl (fun _ => 0))), ((u_5 0 2), .inl (cy 1, 6, .inl (fun _ => 0)))] : va_W) ++ ((List.range 40).map (fun i => (((u_5 1) i, .inl (cy 1, 6, .inl (fun _ => 0))) : Nat × va_E)))) ++ ([(q_1, .inr (9, [.ref (u_2 0 0), .int 0])), ((u_2 0 0), .inl (cy 1, 80, .inl (fun _ => 0)))] : va_W)))))))))))) H := hP
  have hD : va_D A (([(h0, .inr (11, [.ref q_1, .ref q_4, .ref q_7, .ref q_10, .ref q_13, .ref q_16, .int 0, .ref q_17, .ref q_20, .ref q_23, .ref q_26, .ref q_29, .ref q_32])), (q_16, .inl (cy 8, 10, .inr (.inr (.inr (.inr (fun _ => none))))))] : va_W) ++ ((([(q_32, .inr (7, [.ref (u_33 0 0), .ref (u_33 0 1), .ref (u_33 0 2), .ref (u_33 0 3)])), ((u_33 0 2), .inl (cy 0, 6, .inl (fun _ => 0))), ((u_33 0 3), .inl (cy 7, 6, .inr (.inr (.inr (.inr (fun i => if i < 6 then some ((u_33 1) i) else none)))))), ((u_33 0 0), .inl (cy 0, 6, .inl (fun _ => (-1)))), ((u_33 0 1), .inl (cy 0, 6, .inl (fun _ => (-1))))] : va_W) ++ ((List.range 6).map (fun i => (((u_33 1) i, .inl (cy 4, 60, .inr (.inl (fun _ => 0)))) : Nat × va_E)))) ++ (([(q_29, .inr (0, [.ref (u_30 0 0), .int 0, .int 0, .int 0, .int 0])), ((u_30 0 0), .inl (cy 0, 24, .inl (fun _ => 0)))] : va_W) ++ (([(q_26, .inr (10, [.ref (u_27 0 0), .int 0, .int (-1), .ref (u_27 0 1), .ref q_4])), ((u_27 0 0), .inl (cy 0, 6, .inl (fun _ => 0))), ((u_27 0 1), .inl (cy 0, 12, .inl (fun _ => 0)))] : va_W) ++ ((([(q_23, .inr (5, [.ref (u_24 0 0), .int 0, .ref (u_24 0 1), .int 0, .ref (u_24 0 2), .ref (u_24 0 3), .ref q_7, .ref q_4, .ref q_13, .ref q_10])), ((u_24 0 0), .inl (cy 0, 5, .inl (fun _ => 0))), ((u_24 0 1), .inl (cy 0, 5, .inl (fun _ => 0))), ((u_24 0 2), .inl (cy 6, 32, .inr (.inr (.inr (.inr (fun i => if i < 32 then some ((u_24 1) i) else none)))))), ((u_24 0 3), .inl (cy 0, 32, .inl (fun _ => 0)))] : va_W) ++ ((List.range 32).map (fun i => (((u_24 1) i, .inl (cy 0, 40, .inl (fun _ => 0))) : Nat × va_E)))) ++ ((([(q_20, .inr (6, [.ref (u_21 0 0), .ref (u_21 0 1), .ref (u_21 0 2), .ref (u_21 0 3), .ref (u_21 0 4), .ref (u_21 0 5), .ref (u_21 0 6), .ref (u_21 0 7), .int 0, .ref q_7, .ref q_4, .ref q_13])), ((u_21 0 0), .inl (cy 6, 12, .inr (.inr (.inr (.inr (fun i => if i < 12 then some ((u_21 5) i) else none)))))), ((u_21 0 1), .inl (cy 6, 12, .inr (.inr (.inr (.inr (fun i => if i < 12 then some ((u_21 4) i) else none)))))), ((u_21 0 2), .inl (cy 6, 12, .inr (.inr (.inr (.inr (fun i => if i < 12 then some ((u_21 3) i) else none)))))), ((u_21 0 3), .inl (cy 6, 12, .inr (.inr (.inr (.inr (fun i => if i < 12 then some ((u_21 2) i) else none)))))), ((u_21 0 4), .inl (cy 6, 12, .inr (.inr (.inr (.inr (fun i => if i < 12 then some ((u_21 1) i) else none)))))), ((u_21 0 5), .inl (cy 0, 40, .inl (fun _ => 0))), ((u_21 0 6), .inl (cy 0, 16, .inl (fun _ => 0))), ((u_21 0 7), .inl (cy 0, 16, .inl (fun _ => 0)))] : va_W) ++ (((List.range 12).map (fun i => (((u_21 1) i, .inl (cy 0, 40, .inl (fun _ => 0))) : Nat × va_E))) ++ (((List.range 12).map (fun i => (((u_21 2) i, .inl (cy 0, 40, .inl (fun _ => 0))) : Nat × va_E))) ++ (((List.range 12).map (fun i => (((u_21 3) i, .inl (cy 0, 40, .inl (fun _ => 0))) : Nat × va_E))) ++ (((List.range 12).map (fun i => (((u_21 4) i, .inl (cy 0, 40, .inl (fun _ => 0))) : Nat × va_E))) ++ ((List.range 12).map (fun i => (((u_21 5) i, .inl (cy 0, 40, .inl (fun _ => 0))) : Nat × va_E)))))))) ++ (([(q_17, .inr (8, [.int 0, .int 0, .int 1, .int 1, .int 0, .int 0, .int 0, .int 0, .ref (u_18 0 0), .ref (u_18 0 1), .ref (u_18 0 2), .ref (u_18 0 3), .ref (u_18 0 4)])), ((u_18 0 0), .inl (cy 0, 12, .inl (fun _ => 0))), ((u_18 0 1), .inl (cy 0, 12, .inl (fun _ => 0))), ((u_18 0 2), .inl (cy 1, 80, .inl (fun _ => 0))), ((u_18 0 3), .inl (cy 1, 1000, .inl (fun _ => 0))), ((u_18 0 4), .inl (cy 3, 1000, .inl (fun _ => 0)))] : va_W) ++ (([(q_13, .inr (1, [.ref (u_14 0 0), .ref (u_14 0 1), .int 0, .int 0, .int 0, .int 0, .int 0, .ref (u_14 0 2), .ref q_7])), ((u_14 0 0), .inl (cy 0, 12, .inl (fun _ => 0))), ((u_14 0 1), .inl (cy 0, 12, .inl (fun _ => 0))), ((u_14 0 2), .inl (cy 0, 12, .inl (fun _ => 0)))] : va_W) ++ (([(q_10, .inr (3, [.ref (u_11 0 0), .int 0, .int 0, .int (-1), .int 0, .int 0, .int 0, .int 0])), ((u_11 0 0), .inl (cy 1, 0, .inl (fun _ => 0)))] : va_W) ++ (([(q_7, .inr (2, [.ref (u_8 0 0), .ref (u_8 0 1), .ref (u_8 0 2), .ref (u_8 0 3), .ref (u_8 0 4), .int 0])), ((u_8 0 0), .inl (cy 0, 12, .inl (fun _ => 0))), ((u_8 0 1), .inl (cy 0, 12, .inl (fun _ => 0))), ((u_8 0 2), .inl (cy 0, 12, .inl (fun _ => 0))), ((u_8 0 3), .inl (cy 0, 12, .inl (fun _ => 0))), ((u_8 0 4), .inl (cy 2, 12, .inl (fun _ => 0)))] : va_W) ++ ((([(q_4, .inr (4, [.ref (u_5 0 0), .ref (u_5 0 1), .ref (u_5 0 2), .int 0])), ((u_5 0 0), .inl (cy 5, 40, .inr (.inr (.inr (.inr (fun i => if i < 40 then some ((u_5 1) i) else none)))))), ((u_5 0 1), .inl (cy 0, 40, .inl (fun _ => 0))), ((u_5 0 2), .inl (cy 1, 6, .inl (fun _ => 0)))] : va_W) ++ ((List.range 40).map (fun i => (((u_5 1) i, .inl (cy 1, 6, .inl (fun _ => 0))) : Nat × va_E)))) ++ ([(q_1, .inr (9, [.ref (u_2 0 0), .int 0])), ((u_2 0 0), .inl (cy 1, 80, .inl (fun _ => 0)))] : va_W)))))))))))) := hD
  exact W.vret hx hb hr (fun t ht hW => ⟨⟨(fun k => [q_1, q_4, q_7, q_10, q_13, q_16, q_17, q_20, q_23, q_26, q_29, q_32].getD k 0, fun k => [u_33, u_30, u_27, u_24, u_21, u_18, u_14, u_11, u_8, u_5, u_2].getD k (fun _ _ => 0)), rfl, trivial, ⟨by rw [ht]; exact hP, hD⟩⟩, hS.F ht⟩) hS.2.2 dX11_init_175
end
