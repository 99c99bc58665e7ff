def QT (dC : Nat → ClassId) (dI : Nat → Nat → Nat) (cy : Nat → ClassId) (ad : Nat → Nat) (τ nb : Nat) (r0 : Int32) (δ : Nat) (σ9 : S2) (A : Nat → Prop) : Array Value → State → Outcome → State → Prop := va_Qi (fun (r : Int32) (_ : Nat → Nat) => r = r0) (fun (u : Nat → Nat) t => wAt (dC, dI) A (wG (cC cy u (τ + δ)) u (182 + 6 * (nb + δ)) σ9) t ∧ ∀ k, k < 182 + 6 * nb → u k = ad k) A
def adT (ad : Nat → Nat) (b q : Nat) (u : Nat → Nat → Nat) (k : Nat) : Nat := if k < 182 + 6 * b then ad k else if k = 182 + 6 * b then q else u 0 (k - (182 + 6 * b) - 1)
section TBL
variable {D : va_G} {cl : List vw_C} {A : Nat → Prop} {H : Heap} {w r : va_W}
theorem tb_swP (h : va_P D cl (w ++ r) H) : va_P D cl (r ++ w) H := va_P.swap (a := []) h
theorem tb_swD (h : va_D A (w ++ r)) : va_D A (r ++ w) := va_D.swap (a := []) h
theorem tb_lP (h : va_P D cl (w ++ r) H) : va_P D cl w H := fun k q hk => h k q (by rw [List.getElem?_append_left (List.getElem?_eq_some_iff.mp hk).1]; exact hk)
theorem tb_lD (h : va_D A (w ++ r)) : va_D A w := by
  have e : ∀ (k : Nat) (q : Nat × va_E), w[k]? = some q → (w ++ r)[k]? = some q := fun k q hk => by rw [List.getElem?_append_left (List.getElem?_eq_some_iff.mp hk).1]; exact hk
  exact ⟨fun i j p q hi hj he => h.1 i j p q (e i p hi) (e j q hj) he, fun k q hk => h.2 k q (e k q hk)⟩
theorem tb_map (w : va_W) : (List.range w.length).map (fun i => w[i]?) = w.map some := by
  apply List.ext_getElem?
  intro i
  rw [List.getElem?_map, List.getElem?_map]
  by_cases h : i < w.length
  · rw [List.getElem?_range h, List.getElem?_eq_getElem h]
    simp [h]
  · rw [List.getElem?_eq_none (by simpa using h), List.getElem?_eq_none (by simpa using h)]; rfl
theorem tb_fj {A0 : Nat → Prop} {w1 : va_W} {H1 : Heap} (hP : va_P D cl (w ++ r) H) (hD : va_D A0 (w ++ r)) (hk : ∀ q : Nat, q < H.size → ¬ va_A w H.size q → H1[q]? = H[q]?) (hF : ∀ q, va_A w H.size q → A0 q) (hP1 : va_P D cl w1 H1) (hD1 : va_D (va_A w H.size) w1) : va_P D cl (w1 ++ r) H1 ∧ va_D A0 (w1 ++ r) :=
  va_joinQ (X := w) (cx := w) (wr := []) (w1 := w1) (pl := r) hP hD (List.range w.length) [] (tb_map w) rfl rfl (fun i h => by cases h) hk hF hP1 hD1
end TBL
theorem tb_row {N : Nat} {f g : Nat → Nat} {cA : ClassId} {n : Nat} (h : ∀ i, i < N → f i = g i) : (.inl (cA, n, .inr (.inr (.inr (.inr (fun i => if i < N then some (f i) else none))))) : va_E) = .inl (cA, n, .inr (.inr (.inr (.inr (fun i => if i < N then some (g i) else none))))) := by
  have : (fun i => if i < N then some (f i) else none) = (fun i => if i < N then some (g i) else none) := by
    funext i
    by_cases hi : i < N
    · rw [if_pos hi, if_pos hi, h i hi]
    · rw [if_neg hi, if_neg hi]
  rw [this]
theorem tb_cC {cy : Nat → ClassId} {ad ad2 : Nat → Nat} {τ b : Nat} (hτ : τ < b) (ha : ∀ k, k < 182 + 6 * b → ad2 k = ad k) (k : Nat) (hk : k < 182 + 6 * b) (g : Nat → Int32) (q : Nat → Int64) : cC cy ad2 τ k g q = cC cy ad τ k g q := by
  have hF : ∀ k : Nat, k < 44 → cF cy ad2 τ k g q = cF cy ad τ k g q := fun k hk => match k, hk with
    | 0, _ => by show (Sum.inr (_, oSR ad2 g) : va_E) = .inr (_, oSR ad g); unfold oSR; simp only [ha 1 (by omega), ha 3 (by omega), ha 7 (by omega), ha 13 (by omega), ha 14 (by omega), ha 42 (by omega), ha 182 (by omega), ha 18 (by omega), ha 27 (by omega), ha 32 (by omega), ha 35 (by omega), ha 37 (by omega)]
    | 1, _ => by show (Sum.inr (_, oTP ad2 g) : va_E) = .inr (_, oTP ad g); unfold oTP; simp only [ha 2 (by omega)]
    | 2, _ => rfl
    | 3, _ => by show (Sum.inr (_, oNL ad2 g) : va_E) = .inr (_, oNL ad g); unfold oNL; simp only [ha 4 (by omega), ha 5 (by omega), ha 6 (by omega)]
    | 4, _ => by exact tb_row (fun i hi => ha _ (by omega))
    | 5, _ => rfl
    | 6, _ => rfl
    | 7, _ => by show (Sum.inr (_, oKP ad2 g) : va_E) = .inr (_, oKP ad g); unfold oKP; simp only [ha 8 (by omega), ha 9 (by omega), ha 10 (by omega), ha 11 (by omega), ha 12 (by omega)]
    | 8, _ => rfl
    | 9, _ => rfl
    | 10, _ => rfl
    | 11, _ => rfl
    | 12, _ => rfl
    | 13, _ => by show (Sum.inr (_, oLW ad2 g) : va_E) = .inr (_, oLW ad g); unfold oLW; rw [ha _ (by split <;> omega)]
    | 14, _ => by show (Sum.inr (_, oCH ad2 g) : va_E) = .inr (_, oCH ad g); unfold oCH; simp only [ha 15 (by omega), ha 16 (by omega), ha 17 (by omega), ha 7 (by omega)]
    | 15, _ => rfl
    | 16, _ => rfl
    | 17, _ => rfl
    | 18, _ => by show (Sum.inr (_, oPC ad2 g) : va_E) = .inr (_, oPC ad g); unfold oPC; simp only [ha 19 (by omega), ha 20 (by omega), ha 21 (by omega), ha 22 (by omega), ha 23 (by omega), ha 24 (by omega), ha 25 (by omega), ha 26 (by omega), ha 7 (by omega), ha 3 (by omega), ha 14 (by omega)]
    | 19, _ => by exact tb_row (fun i hi => ha _ (by omega))
    | 20, _ => by exact tb_row (fun i hi => ha _ (by omega))
    | 21, _ => by exact tb_row (fun i hi => ha _ (by omega))
    | 22, _ => by exact tb_row (fun i hi => ha _ (by omega))
    | 23, _ => by exact tb_row (fun i hi => ha _ (by omega))
    | 24, _ => rfl
    | 25, _ => rfl
    | 26, _ => rfl
    | 27, _ => by show (Sum.inr (_, oOR ad2 g) : va_E) = .inr (_, oOR ad g); unfold oOR; simp only [ha 28 (by omega), ha 29 (by omega), ha 30 (by omega), ha 31 (by omega), ha 7 (by omega), ha 3 (by omega), ha 14 (by omega), ha 13 (by omega)]
    | 28, _ => rfl
    | 29, _ => rfl
    | 30, _ => by exact tb_row (fun i hi => ha _ (by omega))
    | 31, _ => rfl
    | 32, _ => by show (Sum.inr (_, oTU ad2 g) : va_E) = .inr (_, oTU ad g); unfold oTU; simp only [ha 33 (by omega), ha 34 (by omega), ha 3 (by omega)]
    | 33, _ => rfl
    | 34, _ => rfl
    | 35, _ => by show (Sum.inr (_, oAC ad2 g) : va_E) = .inr (_, oAC ad g); unfold oAC; simp only [ha 36 (by omega)]
    | 36, _ => rfl
    | 37, _ => by show (Sum.inr (_, oRW ad2 g) : va_E) = .inr (_, oRW ad g); unfold oRW; simp only [ha 38 (by omega), ha 39 (by omega), ha 40 (by omega), ha 41 (by omega)]
    | 38, _ => rfl
    | 39, _ => rfl
    | 40, _ => rfl
    | 41, _ => by exact tb_row (fun i hi => ha _ (by omega))
    | 42, _ => by exact tb_row (fun i hi => ha _ (by omega))
    | 43, _ => rfl
    | k + 44, hk => absurd hk (by omega)
  unfold cC
  by_cases h : k < 44
  · rw [if_pos h, if_pos h]; exact hF k h
  · rw [if_neg h, if_neg h]
    by_cases h2 : k < 182
    · repeat (first | (split; rfl) | (exfalso; omega) | rfl)
      all_goals (first | rfl | (exfalso; omega))
    · rw [if_neg (by omega), if_neg (by omega), if_neg (by omega), if_neg (by omega), if_neg (by omega), if_neg (by omega), if_neg (by omega), if_neg (by omega), if_neg (by omega), if_neg (by omega), if_neg (by omega), if_neg (by omega), if_neg (by omega), if_neg (by omega), if_neg (by omega), if_neg (by omega)]
      obtain ⟨c, j, hj, rfl⟩ : ∃ c j, j < 6 ∧ k = 182 + 6 * c + j := ⟨(k - 182) / 6, (k - 182) % 6, Nat.mod_lt _ (by decide), by omega⟩
      rw [show (182 + 6 * c + j - 182) % 6 = j by omega]
      match j, hj with
      | 0, _ =>
        show (Sum.inr (8, oTB ad2 (182 + 6 * c + 0) g) : va_E) = .inr (8, oTB ad (182 + 6 * c + 0) g)
        unfold oTB
        rw [ha _ (by omega), ha _ (by omega), ha _ (by omega), ha _ (by omega), ha _ (by omega)]
      | 1, _ => rfl
      | 2, _ => rfl
      | 3, _ => rfl
      | 4, _ => rfl
      | 5, _ => rfl
theorem tb_ext (cy : Nat → ClassId) (ad : Nat → Nat) (τ b : Nat) (hτ : τ < b) (q : Nat) (u : Nat → Nat → Nat) (σ : S2) : wG (cC cy ad τ) ad (182 + 6 * b) σ ++ [(q, .inr (8, [.int 0, .int 0, .int 1, .int 1, .int 0, .int 0, .int 0, .int 0, .ref (u 0 0), .ref (u 0 1), .ref (u 0 2), .ref (u 0 3), .ref (u 0 4)])), ((u 0 0), .inl (cy 0, 12, .inl (fun _ => 0))), ((u 0 1), .inl (cy 0, 12, .inl (fun _ => 0))), ((u 0 2), .inl (cy 1, 80, .inl (fun _ => 0))), ((u 0 3), .inl (cy 1, 1000, .inl (fun _ => 0))), ((u 0 4), .inl (cy 3, 1000, .inl (fun _ => 0)))] = wG (cC cy (adT ad b q u) τ) (adT ad b q u) (182 + 6 * (b + 1)) (nT σ b) := by
  have hlow : ∀ k, k < 182 + 6 * b → adT ad b q u k = ad k := fun k hk => by unfold adT; rw [if_pos hk]
  have a0 : adT ad b q u (182 + 6 * b) = q := by unfold adT; rw [if_neg (by omega), if_pos rfl]
  have aj : ∀ j, j < 5 → adT ad b q u (182 + 6 * b + (j + 1)) = u 0 j := fun j hj => by
    unfold adT
    rw [if_neg (by omega), if_neg (by omega)]
    congr 1; omega
  have n0 : (nT σ b).1 (182 + 6 * b) = tabI := by
    show (if 182 + 6 * b < 182 + 6 * b then _ else if 182 + 6 * b = 182 + 6 * b then _ else _) = _
    rw [if_neg (by omega), if_pos rfl]
  have nj : ∀ j, j < 5 → (nT σ b).1 (182 + 6 * b + (j + 1)) = (fun _ => 0) := fun j hj => by
    show (if 182 + 6 * b + (j + 1) < 182 + 6 * b then _ else if 182 + 6 * b + (j + 1) = 182 + 6 * b then _ else if 182 + 6 * b + (j + 1) < 182 + 6 * b + 6 then _ else _) = _
    rw [if_neg (by omega), if_neg (by omega), if_pos (by omega)]
  have e1 : wG (cC cy (adT ad b q u) τ) (adT ad b q u) (182 + 6 * b) (nT σ b) = wG (cC cy ad τ) ad (182 + 6 * b) σ := by
    unfold wG
    refine List.map_congr_left (fun k hk => ?_)
    have hk := List.mem_range.mp hk
    have es : (nT σ b).1 k = σ.1 k := by
      show (if k < 182 + 6 * b then σ.1 k else _) = _
      rw [if_pos hk]
    rw [hlow k hk, es, tb_cC hτ hlow k hk]; rfl
  have e2 : wG (cC cy (adT ad b q u) τ) (adT ad b q u) (182 + 6 * (b + 1)) (nT σ b) = wG (cC cy (adT ad b q u) τ) (adT ad b q u) (182 + 6 * b) (nT σ b) ++ (List.range 6).map (fun j => (adT ad b q u (182 + 6 * b + j), cC cy (adT ad b q u) τ (182 + 6 * b + j) ((nT σ b).1 (182 + 6 * b + j)) ((nT σ b).2 (182 + 6 * b + j)))) := by
    unfold wG
    rw [show 182 + 6 * (b + 1) = (182 + 6 * b) + 6 by omega, List.range_add, List.map_append, List.map_map]; rfl
  rw [e2, e1]
  congr 1
  show _ = [(adT ad b q u (182 + 6 * b + 0), cC cy (adT ad b q u) τ (182 + 6 * b + 0) ((nT σ b).1 (182 + 6 * b + 0)) ((nT σ b).2 (182 + 6 * b + 0))), (adT ad b q u (182 + 6 * b + (0 + 1)), cC cy (adT ad b q u) τ (182 + 6 * b + 1) ((nT σ b).1 (182 + 6 * b + (0 + 1))) ((nT σ b).2 (182 + 6 * b + 1))), (adT ad b q u (182 + 6 * b + (1 + 1)), cC cy (adT ad b q u) τ (182 + 6 * b + 2) ((nT σ b).1 (182 + 6 * b + (1 + 1))) ((nT σ b).2 (182 + 6 * b + 2))), (adT ad b q u (182 + 6 * b + (2 + 1)), cC cy (adT ad b q u) τ (182 + 6 * b + 3) ((nT σ b).1 (182 + 6 * b + (2 + 1))) ((nT σ b).2 (182 + 6 * b + 3))), (adT ad b q u (182 + 6 * b + (3 + 1)), cC cy (adT ad b q u) τ (182 + 6 * b + 4) ((nT σ b).1 (182 + 6 * b + (3 + 1))) ((nT σ b).2 (182 + 6 * b + 4))), (adT ad b q u (182 + 6 * b + (4 + 1)), cC cy (adT ad b q u) τ (182 + 6 * b + 5) ((nT σ b).1 (182 + 6 * b + (4 + 1))) ((nT σ b).2 (182 + 6 * b + 5)))]
  have c0 := cC_t0 cy (adT ad b q u) τ ((nT σ b).1 (182 + 6 * b + 0)) ((nT σ b).2 (182 + 6 * b + 0)) b
  rw [show 182 + 6 * b + 0 = 182 + 6 * b from rfl] at c0 ⊢
  rw [c0, cC_t1, cC_t2, cC_t3, cC_t4, cC_t5, a0, aj 0 (by decide), aj 1 (by decide), aj 2 (by decide), aj 3 (by decide), aj 4 (by decide), n0, nj 0 (by decide), nj 1 (by decide), nj 2 (by decide), nj 3 (by decide), nj 4 (by decide)]
  have f1 : oTB (adT ad b q u) (182 + 6 * b) tabI = [.int 0, .int 0, .int 1, .int 1, .int 0, .int 0, .int 0, .int 0, .ref (u 0 0), .ref (u 0 1), .ref (u 0 2), .ref (u 0 3), .ref (u 0 4)] := by
    unfold oTB
    rw [show 182 + 6 * b + 1 = 182 + 6 * b + (0 + 1) from rfl, show 182 + 6 * b + 2 = 182 + 6 * b + (1 + 1) from rfl, show 182 + 6 * b + 3 = 182 + 6 * b + (2 + 1) from rfl, show 182 + 6 * b + 4 = 182 + 6 * b + (3 + 1) from rfl, show 182 + 6 * b + 5 = 182 + 6 * b + (4 + 1) from rfl, aj 0 (by decide), aj 1 (by decide), aj 2 (by decide), aj 3 (by decide), aj 4 (by decide)]
    rfl
  rw [f1]
theorem tb_tau {cy : Nat → ClassId} {ad : Nat → Nat} {τ k : Nat} {g : Nat → Int32} {q : Nat → Int64} (e : k ≠ 42) : cC cy ad τ k g q = cC cy ad (τ + 1) k g q := by
  have hF : ∀ k : Nat, k < 44 → k ≠ 42 → cF cy ad τ k g q = cF cy ad (τ + 1) k g q := fun k hk e => match k, hk, e with
    | 0, _, _ => rfl
    | 1, _, _ => rfl
    | 2, _, _ => rfl
    | 3, _, _ => rfl
    | 4, _, _ => rfl
    | 5, _, _ => rfl
    | 6, _, _ => rfl
    | 7, _, _ => rfl
    | 8, _, _ => rfl
    | 9, _, _ => rfl
    | 10, _, _ => rfl
    | 11, _, _ => rfl
    | 12, _, _ => rfl
    | 13, _, _ => rfl
    | 14, _, _ => rfl
    | 15, _, _ => rfl
    | 16, _, _ => rfl
    | 17, _, _ => rfl
    | 18, _, _ => rfl
    | 19, _, _ => rfl
    | 20, _, _ => rfl
    | 21, _, _ => rfl
    | 22, _, _ => rfl
    | 23, _, _ => rfl
    | 24, _, _ => rfl
    | 25, _, _ => rfl
    | 26, _, _ => rfl
    | 27, _, _ => rfl
    | 28, _, _ => rfl
    | 29, _, _ => rfl
    | 30, _, _ => rfl
    | 31, _, _ => rfl
    | 32, _, _ => rfl
    | 33, _, _ => rfl
    | 34, _, _ => rfl
    | 35, _, _ => rfl
    | 36, _, _ => rfl
    | 37, _, _ => rfl
    | 38, _, _ => rfl
    | 39, _, _ => rfl
    | 40, _, _ => rfl
    | 41, _, _ => rfl
    | 42, _, e => absurd rfl e
    | 43, _, _ => rfl
    | k + 44, hk, _ => absurd hk (by omega)
  unfold cC
  by_cases h : k < 44
  · rw [if_pos h, if_pos h]; exact hF k h e
  · rw [if_neg h, if_neg h]
/-- one table more in the row of tables -/
theorem tb_ast {cy : Nat → ClassId} {ad : Nat → Nat} {τ nb : Nat} {σ : S2} {i : Int32} (hc : Int32.toNatClampNeg i = τ) : (wG (cC cy ad τ) ad (182 + 6 * nb) σ).set 42 (ad 42, .inl (cy 8, 10, .inr (.inr (.inr (.inr (fun j => if j = Int32.toNatClampNeg i then some (ad (182 + 6 * (τ + 1))) else if j < τ then some (ad (182 + 6 * (j + 1))) else none)))))) = wG (cC cy ad (τ + 1)) ad (182 + 6 * nb) σ := by
  apply List.ext_getElem?
  intro k
  by_cases hk : k < 182 + 6 * nb
  · by_cases e : k = 42
    · subst e
      rw [List.getElem?_set_self (by unfold wG; simpa using hk), wG_at hk, cC_42]
      have : (fun j => if j = Int32.toNatClampNeg i then some (ad (182 + 6 * (τ + 1))) else if j < τ then some (ad (182 + 6 * (j + 1))) else none) = (fun j => if j < τ + 1 then some (ad (182 + 6 * (j + 1))) else none) := by
        funext j
        rw [hc]
        by_cases e1 : j = τ
        · rw [if_pos e1, if_pos (by omega), e1]
        · rw [if_neg e1]
          by_cases e2 : j < τ
          · rw [if_pos e2, if_pos (by omega)]
          · rw [if_neg e2, if_neg (by omega)]
      rw [this]
    · rw [List.getElem?_set_ne (fun h => e h.symm), wG_at hk, wG_at hk, tb_tau e]
  · rw [List.getElem?_eq_none (by unfold wG; simpa using hk), List.getElem?_eq_none (by unfold wG; simpa using hk)]
theorem tb_astP {cy : Nat → ClassId} {ad : Nat → Nat} {τ nb : Nat} {σ : S2} {i : Int32} {D : va_G} {cl : List vw_C} {H : Heap} (hc : Int32.toNatClampNeg i = τ) (_ : τ < nb) (h : va_P D cl ((wG (cC cy ad τ) ad (182 + 6 * nb) σ).set 42 (ad 42, .inl (cy 8, 10, .inr (.inr (.inr (.inr (fun j => if j = Int32.toNatClampNeg i then some (ad (182 + 6 * (τ + 1))) else if j < τ then some (ad (182 + 6 * (j + 1))) else none))))))) H) : va_P D cl (wG (cC cy ad (τ + 1)) ad (182 + 6 * nb) σ) H := tb_ast (σ := σ) hc ▸ h
theorem tb_astD {cy : Nat → ClassId} {ad : Nat → Nat} {τ nb : Nat} {σ : S2} {i : Int32} {A : Nat → Prop} (hc : Int32.toNatClampNeg i = τ) (_ : τ < nb) (h : va_D A ((wG (cC cy ad τ) ad (182 + 6 * nb) σ).set 42 (ad 42, .inl (cy 8, 10, .inr (.inr (.inr (.inr (fun j => if j = Int32.toNatClampNeg i then some (ad (182 + 6 * (τ + 1))) else if j < τ then some (ad (182 + 6 * (j + 1))) else none)))))))) : va_D A (wG (cC cy ad (τ + 1)) ad (182 + 6 * nb) σ) := tb_ast (σ := σ) hc ▸ h
section UTB
variable {p : Program} {l : Launch} {e : Env} {R : Room} {s : State} {m : MethodId} {args : Array Value} {below : List Frame} {meth : Method} {c : Code} {H : Heap} {locs : List Loc} {pc : Nat} {ls : Array Slot} {cc : ByteArray} {dC : Nat → ClassId} {dI : Nat → Nat → Nat} {cy : Nat → ClassId} {ad : Nat → Nat} {τ nb : Nat} {σ σ9 : S2} {A : Nat → Prop} {δ : Nat}
theorem ux_iretT (hx : p.tables.exec = Jvm.exec) (hb : c.code = cc) (hr : meth.sig.returnType = some .int) {v r0 : Int32} (h : some (v, (0 : Nat), σ) = some (r0, δ, σ9)) (hP : va_P (dC, dI) vwCl (wG (cC cy ad τ) ad (182 + 6 * nb) σ) H) (hD : va_D A (wG (cC cy ad τ) ad (182 + 6 * nb) σ)) (hS : va_S A s.heap H locs) (hlocks : meth.locks = false) (hdg : decode cc pc = .ok (.ireturn, 1)) : W p l e R s m args below meth c H locs 0 0 (MQ below (QT dC dI cy ad τ nb r0 δ σ9 A) args s 6 2117 A) (F0 m pc ls [.int v]) := by
  cases h
  refine W.widen (k := 6) (n := 2117) (Nat.le_of_ble_eq_true rfl) (Nat.le_of_ble_eq_true rfl) ?_
  exact W.iret (v := v) hx hb hr (fun t ht hW => ⟨⟨v, ad, rfl, rfl, ⟨by rw [ht]; exact hP, hD⟩, fun _ _ => rfl⟩, hS.F ht⟩) hS.2.2 hdg
theorem ux_iretU {ad0 : Nat → Nat} (had : ∀ k, k < 182 + 6 * (τ + 1) → ad k = ad0 k) (hx : p.tables.exec = Jvm.exec) (hb : c.code = cc) (hr : meth.sig.returnType = some .int) {v r0 : Int32} (h : some (v, (1 : Nat), σ) = some (r0, δ, σ9)) (hP : va_P (dC, dI) vwCl (wG (cC cy ad (τ + 1)) ad (182 + 6 * (τ + 2)) σ) H) (hD : va_D A (wG (cC cy ad (τ + 1)) ad (182 + 6 * (τ + 2)) σ)) (hS : va_S A s.heap H locs) (hlocks : meth.locks = false) (hdg : decode cc pc = .ok (.ireturn, 1)) : W p l e R s m args below meth c H locs 6 2117 (MQ below (QT dC dI cy ad0 τ (τ + 1) r0 δ σ9 A) args s 6 2117 A) (F0 m pc ls [.int v]) := by
  cases h
  exact W.iret (v := v) hx hb hr (fun t ht hW => ⟨⟨v, ad, rfl, rfl, ⟨by rw [ht]; exact hP, hD⟩, had⟩, hS.F ht⟩) hS.2.2 hdg
end UTB
