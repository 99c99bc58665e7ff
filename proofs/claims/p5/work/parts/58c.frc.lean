theorem wfX0_begin_19 {m : Nat} {σ0 : S2} (hm : 1048576 ||| m = m) (τ : Nat) (σ : S2) (h : Fr gC m σ0 σ) : FrP gC m σ0 (fX0_begin_19 τ σ) := by
  unfold fX0_begin_19
  refine frp_w (Fr.wI h (tb_of (g := 20) hm rfl)) (fun σ1 h1 => ?_)
  exact frp_s h1
theorem wfX0_begin_0 {m : Nat} {σ0 : S2} (hm : 1048576 ||| m = m) (τ : Nat) (σ : S2) (x1 : Int32) (h : Fr gC m σ0 σ) : FrP gC m σ0 (fX0_begin_0 τ σ x1) := by
  unfold fX0_begin_0
  refine frp_if ?_ ?_
  · skip
    exact (wfX0_begin_19 hm _ _ h)
  · skip
    refine frp_ck (fun b1 => ?_)
    refine frp_w (Fr.wI h (tb_of (g := 20) hm rfl)) (fun σ2 h2 => ?_)
    exact (wfX0_begin_19 hm _ _ h2)
theorem wfX0_begin {m : Nat} {σ0 : S2} (hm : 1048576 ||| m = m) (τ : Nat) (σ : S2) (a1 : Int32) (h : Fr gC m σ0 σ) : FrP gC m σ0 (fX0_begin τ σ a1) := by
  unfold fX0_begin
  exact (wfX0_begin_0 hm _ _ _ h)
theorem wfX0_findsFrom_0 {m : Nat} {σ0 : S2} (hm : 1048576 ||| m = m) (τ : Nat) (qX0_findsFrom : S2 → Int32 → Int32 → Option (Int32 × S2)) (hqX0_findsFrom : ∀ (y0 : S2) (y1 : Int32) (y2 : Int32), Fr gC m σ0 y0 → FrP gC m σ0 (qX0_findsFrom y0 y1 y2)) (σ : S2) (x1 : Int32) (x2 : Int32) (h : Fr gC m σ0 σ) : FrP gC m σ0 (fX0_findsFrom_0 τ qX0_findsFrom σ x1 x2) := by
  unfold fX0_findsFrom_0
  refine frp_if ?_ ?_
  · skip
    refine frp_bs (wfX0_begin hm _ _ _ h) (fun r2 σ3 h1 => ?_)
    refine frp_bs (hqX0_findsFrom _ _ _ h1) (fun r5 σ6 h2 => ?_)
    exact frp_s h2
  · skip
    refine frp_if ?_ ?_
    · skip
      refine frp_bs (wfX0_begin hm _ _ _ h) (fun r9 σ10 h3 => ?_)
      refine frp_bs (hqX0_findsFrom _ _ _ h3) (fun r12 σ13 h4 => ?_)
      exact frp_s h4
    · skip
      refine frp_if ?_ ?_
      · skip
        refine frp_bs (wfX0_begin hm _ _ _ h) (fun r16 σ17 h5 => ?_)
        refine frp_bs (hqX0_findsFrom _ _ _ h5) (fun r19 σ20 h6 => ?_)
        exact frp_s h6
      · skip
        refine frp_bs (wfX0_begin hm _ _ _ h) (fun r22 σ23 h7 => ?_)
        exact frp_s h7
theorem weX0_findsFrom {m : Nat} {σ0 : S2} (hm : 1048576 ||| m = m) (τ : Nat) (qX0_findsFrom : S2 → Int32 → Int32 → Option (Int32 × S2)) (hqX0_findsFrom : ∀ (y0 : S2) (y1 : Int32) (y2 : Int32), Fr gC m σ0 y0 → FrP gC m σ0 (qX0_findsFrom y0 y1 y2)) (σ : S2) (a1 : Int32) (a2 : Int32) (h : Fr gC m σ0 σ) : FrP gC m σ0 (eX0_findsFrom τ qX0_findsFrom σ a1 a2) := by
  unfold eX0_findsFrom
  exact (wfX0_findsFrom_0 hm _ _ hqX0_findsFrom _ _ _ h)
theorem wGX0_findsFrom {m : Nat} {σ0 : S2} (hm : 1048576 ||| m = m) (τ : Nat) : ∀ (d j : Nat) (σ : S2) (a1 : Int32) (a2 : Int32), Fr gC m σ0 σ → FrP gC m σ0 (GX0_findsFrom τ d j σ a1 a2) := by
  intro d
  induction d with
  | zero => intro j σ a1 a2 _; exact frp_n
  | succ d ih =>
    intro j σ a1 a2 h
    unfold GX0_findsFrom; exact (weX0_findsFrom hm _ _ (ih 0) _ _ _ h)
theorem wfX0_findsFrom {m : Nat} {σ0 : S2} (hm : 1048576 ||| m = m) (τ : Nat) (σ : S2) (a1 : Int32) (a2 : Int32) (h : Fr gC m σ0 σ) : FrP gC m σ0 (fX0_findsFrom τ σ a1 a2) := by
  unfold fX0_findsFrom
  exact (wGX0_findsFrom hm _ _ _ _ _ _ h)
theorem wfX0_movesFrom_0 {m : Nat} {σ0 : S2} (hm : 1048576 ||| m = m) (τ : Nat) (qX0_movesFrom : S2 → Int32 → Int32 → Option (Int32 × S2)) (hqX0_movesFrom : ∀ (y0 : S2) (y1 : Int32) (y2 : Int32), Fr gC m σ0 y0 → FrP gC m σ0 (qX0_movesFrom y0 y1 y2)) (σ : S2) (x1 : Int32) (x2 : Int32) (h : Fr gC m σ0 σ) : FrP gC m σ0 (fX0_movesFrom_0 τ qX0_movesFrom σ x1 x2) := by
  unfold fX0_movesFrom_0
  refine frp_if ?_ ?_
  · skip
    refine frp_bs (wfX0_begin hm _ _ _ h) (fun r2 σ3 h1 => ?_)
    refine frp_bs (hqX0_movesFrom _ _ _ h1) (fun r5 σ6 h2 => ?_)
    exact frp_s h2
  · skip
    refine frp_if ?_ ?_
    · skip
      refine frp_bs (wfX0_begin hm _ _ _ h) (fun r9 σ10 h3 => ?_)
      refine frp_bs (hqX0_movesFrom _ _ _ h3) (fun r12 σ13 h4 => ?_)
      refine frp_bs (wfX0_findsFrom hm _ _ _ _ h4) (fun r15 σ16 h5 => ?_)
      exact frp_s h5
    · skip
      refine frp_bs (wfX0_begin hm _ _ _ h) (fun r18 σ19 h6 => ?_)
      exact frp_s h6
theorem weX0_movesFrom {m : Nat} {σ0 : S2} (hm : 1048576 ||| m = m) (τ : Nat) (qX0_movesFrom : S2 → Int32 → Int32 → Option (Int32 × S2)) (hqX0_movesFrom : ∀ (y0 : S2) (y1 : Int32) (y2 : Int32), Fr gC m σ0 y0 → FrP gC m σ0 (qX0_movesFrom y0 y1 y2)) (σ : S2) (a1 : Int32) (a2 : Int32) (h : Fr gC m σ0 σ) : FrP gC m σ0 (eX0_movesFrom τ qX0_movesFrom σ a1 a2) := by
  unfold eX0_movesFrom
  exact (wfX0_movesFrom_0 hm _ _ hqX0_movesFrom _ _ _ h)
theorem wGX0_movesFrom {m : Nat} {σ0 : S2} (hm : 1048576 ||| m = m) (τ : Nat) : ∀ (d j : Nat) (σ : S2) (a1 : Int32) (a2 : Int32), Fr gC m σ0 σ → FrP gC m σ0 (GX0_movesFrom τ d j σ a1 a2) := by
  intro d
  induction d with
  | zero => intro j σ a1 a2 _; exact frp_n
  | succ d ih =>
    intro j σ a1 a2 h
    unfold GX0_movesFrom; exact (weX0_movesFrom hm _ _ (ih 0) _ _ _ h)
theorem wfX0_movesFrom {m : Nat} {σ0 : S2} (hm : 1048576 ||| m = m) (τ : Nat) (σ : S2) (a1 : Int32) (a2 : Int32) (h : Fr gC m σ0 σ) : FrP gC m σ0 (fX0_movesFrom τ σ a1 a2) := by
  unfold fX0_movesFrom
  exact (wGX0_movesFrom hm _ _ _ _ _ _ h)
theorem wfX0_keepsFrom_0 {m : Nat} {σ0 : S2} (hm : 1048576 ||| m = m) (τ : Nat) (qX0_keepsFrom : S2 → Int32 → Int32 → Option (Int32 × S2)) (hqX0_keepsFrom : ∀ (y0 : S2) (y1 : Int32) (y2 : Int32), Fr gC m σ0 y0 → FrP gC m σ0 (qX0_keepsFrom y0 y1 y2)) (σ : S2) (x1 : Int32) (x2 : Int32) (h : Fr gC m σ0 σ) : FrP gC m σ0 (fX0_keepsFrom_0 τ qX0_keepsFrom σ x1 x2) := by
  unfold fX0_keepsFrom_0
  refine frp_if ?_ ?_
  · skip
    refine frp_bs (wfX0_begin hm _ _ _ h) (fun r2 σ3 h1 => ?_)
    refine frp_bs (hqX0_keepsFrom _ _ _ h1) (fun r5 σ6 h2 => ?_)
    exact frp_s h2
  · skip
    refine frp_if ?_ ?_
    · skip
      refine frp_bs (wfX0_begin hm _ _ _ h) (fun r9 σ10 h3 => ?_)
      refine frp_bs (hqX0_keepsFrom _ _ _ h3) (fun r12 σ13 h4 => ?_)
      refine frp_bs (wfX0_movesFrom hm _ _ _ _ h4) (fun r15 σ16 h5 => ?_)
      exact frp_s h5
    · skip
      refine frp_bs (wfX0_begin hm _ _ _ h) (fun r18 σ19 h6 => ?_)
      refine frp_bs (wfX0_findsFrom hm _ _ _ _ h6) (fun r21 σ22 h7 => ?_)
      exact frp_s h7
theorem weX0_keepsFrom {m : Nat} {σ0 : S2} (hm : 1048576 ||| m = m) (τ : Nat) (qX0_keepsFrom : S2 → Int32 → Int32 → Option (Int32 × S2)) (hqX0_keepsFrom : ∀ (y0 : S2) (y1 : Int32) (y2 : Int32), Fr gC m σ0 y0 → FrP gC m σ0 (qX0_keepsFrom y0 y1 y2)) (σ : S2) (a1 : Int32) (a2 : Int32) (h : Fr gC m σ0 σ) : FrP gC m σ0 (eX0_keepsFrom τ qX0_keepsFrom σ a1 a2) := by
  unfold eX0_keepsFrom
  exact (wfX0_keepsFrom_0 hm _ _ hqX0_keepsFrom _ _ _ h)
theorem wGX0_keepsFrom {m : Nat} {σ0 : S2} (hm : 1048576 ||| m = m) (τ : Nat) : ∀ (d j : Nat) (σ : S2) (a1 : Int32) (a2 : Int32), Fr gC m σ0 σ → FrP gC m σ0 (GX0_keepsFrom τ d j σ a1 a2) := by
  intro d
  induction d with
  | zero => intro j σ a1 a2 _; exact frp_n
  | succ d ih =>
    intro j σ a1 a2 h
    unfold GX0_keepsFrom; exact (weX0_keepsFrom hm _ _ (ih 0) _ _ _ h)
theorem wfX0_keepsFrom {m : Nat} {σ0 : S2} (hm : 1048576 ||| m = m) (τ : Nat) (σ : S2) (a1 : Int32) (a2 : Int32) (h : Fr gC m σ0 σ) : FrP gC m σ0 (fX0_keepsFrom τ σ a1 a2) := by
  unfold fX0_keepsFrom
  exact (wGX0_keepsFrom hm _ _ _ _ _ _ h)
theorem wfX0_tellsFrom_0 {m : Nat} {σ0 : S2} (hm : 1048576 ||| m = m) (τ : Nat) (qX0_tellsFrom : S2 → Int32 → Int32 → Option (Int32 × S2)) (hqX0_tellsFrom : ∀ (y0 : S2) (y1 : Int32) (y2 : Int32), Fr gC m σ0 y0 → FrP gC m σ0 (qX0_tellsFrom y0 y1 y2)) (σ : S2) (x1 : Int32) (x2 : Int32) (h : Fr gC m σ0 σ) : FrP gC m σ0 (fX0_tellsFrom_0 τ qX0_tellsFrom σ x1 x2) := by
  unfold fX0_tellsFrom_0
  refine frp_if ?_ ?_
  · skip
    refine frp_bs (wfX0_begin hm _ _ _ h) (fun r10 σ11 h1 => ?_)
    refine frp_bs (hqX0_tellsFrom _ _ _ h1) (fun r13 σ14 h2 => ?_)
    exact frp_s h2
  · skip
    refine frp_bs (wfX0_begin hm _ _ _ h) (fun r1 σ2 h3 => ?_)
    refine frp_bs (wfX0_keepsFrom hm _ _ _ _ h3) (fun r4 σ5 h4 => ?_)
    refine frp_bs (wfX0_movesFrom hm _ _ _ _ h4) (fun r7 σ8 h5 => ?_)
    exact frp_s h5
theorem weX0_tellsFrom {m : Nat} {σ0 : S2} (hm : 1048576 ||| m = m) (τ : Nat) (qX0_tellsFrom : S2 → Int32 → Int32 → Option (Int32 × S2)) (hqX0_tellsFrom : ∀ (y0 : S2) (y1 : Int32) (y2 : Int32), Fr gC m σ0 y0 → FrP gC m σ0 (qX0_tellsFrom y0 y1 y2)) (σ : S2) (a1 : Int32) (a2 : Int32) (h : Fr gC m σ0 σ) : FrP gC m σ0 (eX0_tellsFrom τ qX0_tellsFrom σ a1 a2) := by
  unfold eX0_tellsFrom
  exact (wfX0_tellsFrom_0 hm _ _ hqX0_tellsFrom _ _ _ h)
theorem wGX0_tellsFrom {m : Nat} {σ0 : S2} (hm : 1048576 ||| m = m) (τ : Nat) : ∀ (d j : Nat) (σ : S2) (a1 : Int32) (a2 : Int32), Fr gC m σ0 σ → FrP gC m σ0 (GX0_tellsFrom τ d j σ a1 a2) := by
  intro d
  induction d with
  | zero => intro j σ a1 a2 _; exact frp_n
  | succ d ih =>
    intro j σ a1 a2 h
    unfold GX0_tellsFrom; exact (weX0_tellsFrom hm _ _ (ih 0) _ _ _ h)
theorem wfX0_tellsFrom {m : Nat} {σ0 : S2} (hm : 1048576 ||| m = m) (τ : Nat) (σ : S2) (a1 : Int32) (a2 : Int32) (h : Fr gC m σ0 σ) : FrP gC m σ0 (fX0_tellsFrom τ σ a1 a2) := by
  unfold fX0_tellsFrom
  exact (wGX0_tellsFrom hm _ _ _ _ _ _ h)
theorem wfX0_run_0 {m : Nat} {σ0 : S2} (hm : 1048577 ||| m = m) (τ : Nat) (σ : S2) (x1 : Int32) (x2 : Int32) (x3 : Int32) (x4 : Int32) (x5 : Int32) (h : Fr gC m σ0 σ) : FrP gC m σ0 (fX0_run_0 τ σ x1 x2 x3 x4 x5) := by
  unfold fX0_run_0
  refine frp_w (Fr.wI h (tb_of (g := 0) hm rfl)) (fun σ1 h1 => ?_)
  refine frp_w (Fr.wI h1 (tb_of (g := 0) hm rfl)) (fun σ2 h2 => ?_)
  refine frp_w (Fr.wI h2 (tb_of (g := 0) hm rfl)) (fun σ3 h3 => ?_)
  refine frp_if ?_ ?_
  · skip
    refine frp_bs (wfX0_findsFrom (tb_sub (a := 1048577) rfl hm) _ _ _ _ h3) (fun r5 σ6 h4 => ?_)
    exact frp_s h4
  · skip
    refine frp_if ?_ ?_
    · skip
      refine frp_bs (wfX0_keepsFrom (tb_sub (a := 1048577) rfl hm) _ _ _ _ h3) (fun r9 σ10 h5 => ?_)
      exact frp_s h5
    · skip
      refine frp_if ?_ ?_
      · skip
        refine frp_bs (wfX0_movesFrom (tb_sub (a := 1048577) rfl hm) _ _ _ _ h3) (fun r13 σ14 h6 => ?_)
        exact frp_s h6
      · skip
        refine frp_if ?_ ?_
        · skip
          refine frp_bs (wfX0_tellsFrom (tb_sub (a := 1048577) rfl hm) _ _ _ _ h3) (fun r17 σ18 h7 => ?_)
          exact frp_s h7
        · skip
          exact frp_s h3
theorem wfX0_run {m : Nat} {σ0 : S2} (hm : 1048577 ||| m = m) (τ : Nat) (σ : S2) (a1 : Int32) (a2 : Int32) (a3 : Int32) (a4 : Int32) (a5 : Int32) (h : Fr gC m σ0 σ) : FrP gC m σ0 (fX0_run τ σ a1 a2 a3 a4 a5) := by
  unfold fX0_run
  exact (wfX0_run_0 hm _ _ _ _ _ _ _ h)
theorem wfX1_pickBySums_132 {m : Nat} {σ0 : S2} (hm : 1 ||| m = m) (τ : Nat) (b1 : Nat) (k2 : S2 → Int32 → Int32 → Option (Unit × S2)) (hk2 : ∀ (y0 : S2) (y1 : Int32) (y2 : Int32), Fr gC m σ0 y0 → FrP gC m σ0 (k2 y0 y1 y2)) (σ : S2) (x2 : Int32) (x3 : Int32) (h : Fr gC m σ0 σ) : FrP gC m σ0 (fX1_pickBySums_132 τ b1 k2 σ x2 x3) := by
  unfold fX1_pickBySums_132
  refine frp_nm (fun v1 => ?_)
  exact (hk2 _ _ _ h)
theorem wfX1_pickBySums_105 {m : Nat} {σ0 : S2} (hm : 1 ||| m = m) (τ : Nat) (b1 : Nat) (k2 : S2 → Int32 → Int32 → Option (Unit × S2)) (hk2 : ∀ (y0 : S2) (y1 : Int32) (y2 : Int32), Fr gC m σ0 y0 → FrP gC m σ0 (k2 y0 y1 y2)) (σ : S2) (x2 : Int32) (x3 : Int32) (x4 : Int32) (x5 : Int32) (h : Fr gC m σ0 σ) : FrP gC m σ0 (fX1_pickBySums_105 τ b1 k2 σ x2 x3 x4 x5) := by
  unfold fX1_pickBySums_105
  refine frp_ck (fun b1 => ?_)
  refine frp_w (Fr.wI h (tb_of (g := 0) hm rfl)) (fun σ2 h2 => ?_)
  refine frp_ck (fun b3 => ?_)
  refine frp_w (Fr.wI h2 (tb_of (g := 0) hm rfl)) (fun σ3 h4 => ?_)
  refine frp_w (Fr.wI h4 (tb_of (g := 0) hm rfl)) (fun σ4 h5 => ?_)
  exact (wfX1_pickBySums_132 hm _ _ _ hk2 _ _ _ h5)
theorem wfX1_pickBySums_42 {m : Nat} {σ0 : S2} (hm : 1 ||| m = m) (τ : Nat) (b1 : Nat) (k2 : S2 → Int32 → Int32 → Option (Unit × S2)) (hk2 : ∀ (y0 : S2) (y1 : Int32) (y2 : Int32), Fr gC m σ0 y0 → FrP gC m σ0 (k2 y0 y1 y2)) : ∀ (n : Nat) (σ : S2) (x2 : Int32) (x3 : Int32) (x4 : Int32) (x5 : Int32) (x6 : Int32), Fr gC m σ0 σ → FrP gC m σ0 (fX1_pickBySums_42 τ b1 k2 n σ x2 x3 x4 x5 x6) := by
  intro n
  induction n with
  | zero => intro σ x2 x3 x4 x5 x6 _; exact frp_n
  | succ n ih =>
    intro σ x2 x3 x4 x5 x6 h
    unfold fX1_pickBySums_42
    refine frp_if ?_ ?_
    · skip
      exact (wfX1_pickBySums_105 hm _ _ _ hk2 _ _ _ _ _ h)
    · skip
      refine frp_ck (fun b1 => ?_)
      refine frp_nm (fun v5 => ?_)
      refine frp_if ?_ ?_
      · skip
        exact (wfX1_pickBySums_105 hm _ _ _ hk2 _ _ _ _ _ h)
      · skip
        refine frp_ck (fun b2 => ?_)
        refine frp_nm (fun v6 => ?_)
        refine frp_ck (fun b3 => ?_)
        refine frp_w (Fr.wI h (tb_of (g := 0) hm rfl)) (fun σ7 h4 => ?_)
        refine frp_ck (fun b5 => ?_)
        refine frp_nm (fun v8 => ?_)
        refine frp_ck (fun b6 => ?_)
        refine frp_w (Fr.wI h4 (tb_of (g := 0) hm rfl)) (fun σ9 h7 => ?_)
        refine frp_nm (fun v10 => ?_)
        refine frp_nm (fun v11 => ?_)
        exact (ih _ _ _ _ _ _ h7)
theorem wfX1_pickBySums_2 {m : Nat} {σ0 : S2} (hm : 1 ||| m = m) (τ : Nat) (b1 : Nat) : ∀ (n : Nat) (σ : S2) (x2 : Int32) (x3 : Int32), Fr gC m σ0 σ → FrP gC m σ0 (fX1_pickBySums_2 τ b1 n σ x2 x3) := by
  intro n
  induction n with
  | zero => intro σ x2 x3 _; exact frp_n
  | succ n ih =>
    intro σ x2 x3 h
    unfold fX1_pickBySums_2
    refine frp_if ?_ ?_
    · skip
      refine frp_w (Fr.wI h (tb_of (g := 0) hm rfl)) (fun σ12 h1 => ?_)
      exact frp_s h1
    · skip
      refine frp_if ?_ ?_
      · skip
        exact (wfX1_pickBySums_132 hm _ _ _ ih _ _ _ h)
      · skip
        refine frp_bi (fun r13 => ?_)
        refine frp_nm (fun v15 => ?_)
        refine frp_nm (fun v16 => ?_)
        exact (wfX1_pickBySums_42 hm _ _ _ ih _ _ _ _ _ _ _ h)
theorem wfX1_pickBySums_0 {m : Nat} {σ0 : S2} (hm : 1 ||| m = m) (τ : Nat) (b1 : Nat) (σ : S2) (x2 : Int32) (h : Fr gC m σ0 σ) : FrP gC m σ0 (fX1_pickBySums_0 τ b1 σ x2) := by
  unfold fX1_pickBySums_0
  exact (wfX1_pickBySums_2 hm _ _ _ _ _ _ h)
theorem wfX1_pickBySums {m : Nat} {σ0 : S2} (hm : 1 ||| m = m) (τ : Nat) (b1 : Nat) (σ : S2) (a2 : Int32) (h : Fr gC m σ0 σ) : FrP gC m σ0 (fX1_pickBySums τ b1 σ a2) := by
  unfold fX1_pickBySums
  exact (wfX1_pickBySums_0 hm _ _ _ _ h)
theorem wfX1_takePick_0 {m : Nat} {σ0 : S2} (hm : 1 ||| m = m) (τ : Nat) (σ : S2) (x1 : Int32) (h : Fr gC m σ0 σ) : FrP gC m σ0 (fX1_takePick_0 τ σ x1) := by
  unfold fX1_takePick_0
  refine frp_if ?_ ?_
  · skip
    refine frp_ck (fun b1 => ?_)
    refine frp_w (Fr.wI h (tb_of (g := 0) hm rfl)) (fun σ1 h2 => ?_)
    refine frp_w (Fr.wI h2 (tb_of (g := 0) hm rfl)) (fun σ2 h3 => ?_)
    refine frp_w (Fr.wI h3 (tb_of (g := 0) hm rfl)) (fun σ3 h4 => ?_)
    exact frp_s h4
  · skip
    exact frp_s h
theorem wfX1_takePick {m : Nat} {σ0 : S2} (hm : 1 ||| m = m) (τ : Nat) (σ : S2) (a1 : Int32) (h : Fr gC m σ0 σ) : FrP gC m σ0 (fX1_takePick τ σ a1) := by
  unfold fX1_takePick
  exact (wfX1_takePick_0 hm _ _ _ h)
theorem wfX1_pickFirstFrom_5 {m : Nat} {σ0 : S2} (hm : 1 ||| m = m) (τ : Nat) (b1 : Nat) : ∀ (n : Nat) (σ : S2) (x3 : Int32) (x4 : Int32), Fr gC m σ0 σ → FrP gC m σ0 (fX1_pickFirstFrom_5 τ b1 n σ x3 x4) := by
  intro n
  induction n with
  | zero => intro σ x3 x4 _; exact frp_n
  | succ n ih =>
    intro σ x3 x4 h
    unfold fX1_pickFirstFrom_5
    refine frp_if ?_ ?_
    · skip
      exact frp_s h
    · skip
      refine frp_ck (fun b1 => ?_)
      refine frp_nm (fun v1 => ?_)
      refine frp_ck (fun b2 => ?_)
      refine frp_nm (fun v2 => ?_)
      refine frp_bi (fun r3 => ?_)
      refine frp_if ?_ ?_
      · skip
        refine frp_ck (fun b3 => ?_)
        refine frp_nm (fun v8 => ?_)
        refine frp_bs (wfX1_takePick hm _ _ _ h) (fun r9 σ10 h4 => ?_)
        exact frp_s h4
      · skip
        refine frp_bi (fun r5 => ?_)
        refine frp_nm (fun v7 => ?_)
        exact (ih _ _ _ h)
theorem wfX1_pickFirstFrom_0 {m : Nat} {σ0 : S2} (hm : 1 ||| m = m) (τ : Nat) (b1 : Nat) (σ : S2) (x2 : Int32) (h : Fr gC m σ0 σ) : FrP gC m σ0 (fX1_pickFirstFrom_0 τ b1 σ x2) := by
  unfold fX1_pickFirstFrom_0
  exact (wfX1_pickFirstFrom_5 hm _ _ _ _ _ _ h)
theorem wfX1_pickFirstFrom {m : Nat} {σ0 : S2} (hm : 1 ||| m = m) (τ : Nat) (b1 : Nat) (σ : S2) (a2 : Int32) (h : Fr gC m σ0 σ) : FrP gC m σ0 (fX1_pickFirstFrom τ b1 σ a2) := by
  unfold fX1_pickFirstFrom
  exact (wfX1_pickFirstFrom_0 hm _ _ _ _ h)
theorem wfX1_pickByJumps_2 {m : Nat} {σ0 : S2} (hm : 1 ||| m = m) (τ : Nat) (b1 : Nat) : ∀ (n : Nat) (σ : S2) (x2 : Int32) (x3 : Int32), Fr gC m σ0 σ → FrP gC m σ0 (fX1_pickByJumps_2 τ b1 n σ x2 x3) := by
  intro n
  induction n with
  | zero => intro σ x2 x3 _; exact frp_n
  | succ n ih =>
    intro σ x2 x3 h
    unfold fX1_pickByJumps_2
    refine frp_if ?_ ?_
    · skip
      exact frp_s h
    · skip
      refine frp_if ?_ ?_
      · skip
        exact frp_s h
      · skip
        refine frp_dz ?_
        refine frp_bs (wfX1_pickFirstFrom hm _ _ _ _ h) (fun r2 σ3 h1 => ?_)
        refine frp_nm (fun v5 => ?_)
        exact (ih _ _ _ h1)
theorem wfX1_pickByJumps_0 {m : Nat} {σ0 : S2} (hm : 1 ||| m = m) (τ : Nat) (b1 : Nat) (σ : S2) (x2 : Int32) (h : Fr gC m σ0 σ) : FrP gC m σ0 (fX1_pickByJumps_0 τ b1 σ x2) := by
  unfold fX1_pickByJumps_0
  exact (wfX1_pickByJumps_2 hm _ _ _ _ _ _ h)
theorem wfX1_pickByJumps {m : Nat} {σ0 : S2} (hm : 1 ||| m = m) (τ : Nat) (b1 : Nat) (σ : S2) (a2 : Int32) (h : Fr gC m σ0 σ) : FrP gC m σ0 (fX1_pickByJumps τ b1 σ a2) := by
  unfold fX1_pickByJumps
  exact (wfX1_pickByJumps_0 hm _ _ _ _ h)
theorem wfX1_pickRound_55 {m : Nat} {σ0 : S2} (hm : 1 ||| m = m) (τ : Nat) (b1 : Nat) (k5 : S2 → Int32 → Int32 → Option (Unit × S2)) (hk5 : ∀ (y0 : S2) (y1 : Int32) (y2 : Int32), Fr gC m σ0 y0 → FrP gC m σ0 (k5 y0 y1 y2)) (σ : S2) (x3 : Int32) (x4 : Int32) (h : Fr gC m σ0 σ) : FrP gC m σ0 (fX1_pickRound_55 τ b1 k5 σ x3 x4) := by
  unfold fX1_pickRound_55
  refine frp_bi (fun r1 => ?_)
  refine frp_nm (fun v3 => ?_)
  exact (hk5 _ _ _ h)
theorem wfX1_pickRound_5 {m : Nat} {σ0 : S2} (hm : 1 ||| m = m) (τ : Nat) (b1 : Nat) : ∀ (n : Nat) (σ : S2) (x3 : Int32) (x4 : Int32), Fr gC m σ0 σ → FrP gC m σ0 (fX1_pickRound_5 τ b1 n σ x3 x4) := by
  intro n
  induction n with
  | zero => intro σ x3 x4 _; exact frp_n
  | succ n ih =>
    intro σ x3 x4 h
    unfold fX1_pickRound_5
    refine frp_if ?_ ?_
    · skip
      exact frp_s h
    · skip
      refine frp_if ?_ ?_
      · skip
        exact frp_s h
      · skip
        refine frp_ck (fun b1 => ?_)
        refine frp_nm (fun v4 => ?_)
        refine frp_ck (fun b2 => ?_)
        refine frp_nm (fun v5 => ?_)
        refine frp_bi (fun r6 => ?_)
        refine frp_if ?_ ?_
        · skip
          refine frp_ck (fun b3 => ?_)
          refine frp_nm (fun v8 => ?_)
          refine frp_bs (wfX1_takePick hm _ _ _ h) (fun r9 σ10 h4 => ?_)
          exact (wfX1_pickRound_55 hm _ _ _ ih _ _ _ h4)
        · skip
          exact (wfX1_pickRound_55 hm _ _ _ ih _ _ _ h)
theorem wfX1_pickRound_0 {m : Nat} {σ0 : S2} (hm : 1 ||| m = m) (τ : Nat) (b1 : Nat) (σ : S2) (x2 : Int32) (h : Fr gC m σ0 σ) : FrP gC m σ0 (fX1_pickRound_0 τ b1 σ x2) := by
  unfold fX1_pickRound_0
  exact (wfX1_pickRound_5 hm _ _ _ _ _ _ h)
theorem wfX1_pickRound {m : Nat} {σ0 : S2} (hm : 1 ||| m = m) (τ : Nat) (b1 : Nat) (σ : S2) (a2 : Int32) (h : Fr gC m σ0 σ) : FrP gC m σ0 (fX1_pickRound τ b1 σ a2) := by
  unfold fX1_pickRound
  exact (wfX1_pickRound_0 hm _ _ _ _ h)
theorem wfX1_pick_0 {m : Nat} {σ0 : S2} (hm : 1 ||| m = m) (τ : Nat) (b1 : Nat) (σ : S2) (x2 : Int32) (h : Fr gC m σ0 σ) : FrP gC m σ0 (fX1_pick_0 τ b1 σ x2) := by
  unfold fX1_pick_0
  refine frp_w (Fr.wI h (tb_of (g := 0) hm rfl)) (fun σ1 h1 => ?_)
  refine frp_w (Fr.wI h1 (tb_of (g := 0) hm rfl)) (fun σ2 h2 => ?_)
  refine frp_if ?_ ?_
  · skip
    refine frp_bs (wfX1_pickBySums hm _ _ _ _ h2) (fun r9 σ10 h3 => ?_)
    exact frp_s h3
  · skip
    refine frp_if ?_ ?_
    · skip
      refine frp_bs (wfX1_pickByJumps hm _ _ _ _ h2) (fun r6 σ7 h4 => ?_)
      exact frp_s h4
    · skip
      refine frp_bs (wfX1_pickRound hm _ _ _ _ h2) (fun r3 σ4 h5 => ?_)
      exact frp_s h5
theorem wfX1_pick {m : Nat} {σ0 : S2} (hm : 1 ||| m = m) (τ : Nat) (b1 : Nat) (σ : S2) (a2 : Int32) (h : Fr gC m σ0 σ) : FrP gC m σ0 (fX1_pick τ b1 σ a2) := by
  unfold fX1_pick
  exact (wfX1_pick_0 hm _ _ _ _ h)
theorem wfX1_takeChosen_0 {m : Nat} {σ0 : S2} (hm : 1 ||| m = m) (τ : Nat) (σ : S2) (x1 : Int32) (h : Fr gC m σ0 σ) : FrP gC m σ0 (fX1_takeChosen_0 τ σ x1) := by
  unfold fX1_takeChosen_0
  refine frp_ck (fun b1 => ?_)
  refine frp_w (Fr.wI h (tb_of (g := 0) hm rfl)) (fun σ1 h2 => ?_)
  refine frp_w (Fr.wI h2 (tb_of (g := 0) hm rfl)) (fun σ2 h3 => ?_)
  refine frp_w (Fr.wI h3 (tb_of (g := 0) hm rfl)) (fun σ3 h4 => ?_)
  refine frp_ck (fun b5 => ?_)
  refine frp_nm (fun v4 => ?_)
  refine frp_w (Fr.wI h4 (tb_of (g := 0) hm rfl)) (fun σ5 h6 => ?_)
  exact frp_s h6
theorem wfX1_takeChosen {m : Nat} {σ0 : S2} (hm : 1 ||| m = m) (τ : Nat) (σ : S2) (a1 : Int32) (h : Fr gC m σ0 σ) : FrP gC m σ0 (fX1_takeChosen τ σ a1) := by
  unfold fX1_takeChosen
  exact (wfX1_takeChosen_0 hm _ _ _ h)
theorem wfX1_choose_133 {m : Nat} {σ0 : S2} (hm : 1 ||| m = m) (τ : Nat) (b1 : Nat) (k91 : S2 → Int32 → Option (Unit × S2)) (hk91 : ∀ (y0 : S2) (y1 : Int32), Fr gC m σ0 y0 → FrP gC m σ0 (k91 y0 y1)) (σ : S2) (x3 : Int32) (h : Fr gC m σ0 σ) : FrP gC m σ0 (fX1_choose_133 τ b1 k91 σ x3) := by
  unfold fX1_choose_133
  refine frp_nm (fun v1 => ?_)
  exact (hk91 _ _ h)
theorem wfX1_choose_91 {m : Nat} {σ0 : S2} (hm : 1 ||| m = m) (τ : Nat) (b1 : Nat) : ∀ (n : Nat) (σ : S2) (x3 : Int32), Fr gC m σ0 σ → FrP gC m σ0 (fX1_choose_91 τ b1 n σ x3) := by
  intro n
  induction n with
  | zero => intro σ x3 _; exact frp_n
  | succ n ih =>
    intro σ x3 h
    unfold fX1_choose_91
    refine frp_if ?_ ?_
    · skip
      exact frp_s h
    · skip
      refine frp_if ?_ ?_
      · skip
        exact frp_s h
      · skip
        refine frp_ck (fun b1 => ?_)
        refine frp_nm (fun v2 => ?_)
        refine frp_bi (fun r3 => ?_)
        refine frp_if ?_ ?_
        · skip
          refine frp_ck (fun b2 => ?_)
          refine frp_nm (fun v5 => ?_)
          refine frp_bs (wfX1_takeChosen hm _ _ _ h) (fun r6 σ7 h3 => ?_)
          exact (wfX1_choose_133 hm _ _ _ ih _ _ h3)
        · skip
          exact (wfX1_choose_133 hm _ _ _ ih _ _ h)
theorem wfX1_choose_89 {m : Nat} {σ0 : S2} (hm : 1 ||| m = m) (τ : Nat) (b1 : Nat) (σ : S2) (h : Fr gC m σ0 σ) : FrP gC m σ0 (fX1_choose_89 τ b1 σ) := by
  unfold fX1_choose_89
  exact (wfX1_choose_91 hm _ _ _ _ _ h)
theorem wfX1_choose_83 {m : Nat} {σ0 : S2} (hm : 1 ||| m = m) (τ : Nat) (b1 : Nat) (k23 : S2 → Int32 → Option (Unit × S2)) (hk23 : ∀ (y0 : S2) (y1 : Int32), Fr gC m σ0 y0 → FrP gC m σ0 (k23 y0 y1)) (σ : S2) (x3 : Int32) (h : Fr gC m σ0 σ) : FrP gC m σ0 (fX1_choose_83 τ b1 k23 σ x3) := by
  unfold fX1_choose_83
  refine frp_nm (fun v9 => ?_)
  exact (hk23 _ _ h)
theorem wfX1_choose_23 {m : Nat} {σ0 : S2} (hm : 1 ||| m = m) (τ : Nat) (b1 : Nat) : ∀ (n : Nat) (σ : S2) (x3 : Int32), Fr gC m σ0 σ → FrP gC m σ0 (fX1_choose_23 τ b1 n σ x3) := by
  intro n
  induction n with
  | zero => intro σ x3 _; exact frp_n
  | succ n ih =>
    intro σ x3 h
    unfold fX1_choose_23
    refine frp_if ?_ ?_
    · skip
      exact (wfX1_choose_89 hm _ _ _ h)
    · skip
      refine frp_if ?_ ?_
      · skip
        exact (wfX1_choose_89 hm _ _ _ h)
      · skip
        refine frp_ck (fun b1 => ?_)
        refine frp_nm (fun v10 => ?_)
        refine frp_ck (fun b2 => ?_)
        refine frp_nm (fun v11 => ?_)
        refine frp_if ?_ ?_
        · skip
          refine frp_ck (fun b3 => ?_)
          refine frp_nm (fun v12 => ?_)
          refine frp_bs (wfX1_takeChosen hm _ _ _ h) (fun r13 σ14 h4 => ?_)
          exact (wfX1_choose_83 hm _ _ _ ih _ _ h4)
        · skip
          exact (wfX1_choose_83 hm _ _ _ ih _ _ h)
theorem wfX1_choose_0 {m : Nat} {σ0 : S2} (hm : 1 ||| m = m) (τ : Nat) (b1 : Nat) (σ : S2) (x2 : Int32) (h : Fr gC m σ0 σ) : FrP gC m σ0 (fX1_choose_0 τ b1 σ x2) := by
  unfold fX1_choose_0
  refine frp_bs (wfX1_pick hm _ _ _ _ h) (fun r16 σ17 h1 => ?_)
  refine frp_w (Fr.wI h1 (tb_of (g := 0) hm rfl)) (fun σ19 h2 => ?_)
  refine frp_w (Fr.wI h2 (tb_of (g := 0) hm rfl)) (fun σ20 h3 => ?_)
  refine frp_w (Fr.wI h3 (tb_of (g := 0) hm rfl)) (fun σ21 h4 => ?_)
  exact (wfX1_choose_23 hm _ _ _ _ _ h4)
theorem wfX1_choose {m : Nat} {σ0 : S2} (hm : 1 ||| m = m) (τ : Nat) (b1 : Nat) (σ : S2) (a2 : Int32) (h : Fr gC m σ0 σ) : FrP gC m σ0 (fX1_choose τ b1 σ a2) := by
  unfold fX1_choose
  exact (wfX1_choose_0 hm _ _ _ _ h)
theorem wfX2_add_0 {m : Nat} {σ0 : S2} (hm : 248 ||| m = m) (τ : Nat) (σ : S2) (x1 : Int32) (x2 : Int32) (h : Fr gC m σ0 σ) : FrP gC m σ0 (fX2_add_0 τ σ x1 x2) := by
  unfold fX2_add_0
  refine frp_ck (fun b1 => ?_)
  refine frp_w (Fr.wI h (tb_of (g := 4) hm rfl)) (fun σ1 h2 => ?_)
  refine frp_ck (fun b3 => ?_)
  refine frp_w (Fr.wI h2 (tb_of (g := 5) hm rfl)) (fun σ2 h4 => ?_)
  refine frp_ck (fun b5 => ?_)
  refine frp_w (Fr.wI h4 (tb_of (g := 6) hm rfl)) (fun σ3 h6 => ?_)
  refine frp_ck (fun b7 => ?_)
  refine frp_w (Fr.wI h6 (tb_of (g := 7) hm rfl)) (fun σ4 h8 => ?_)
  refine frp_w (Fr.wI h8 (tb_of (g := 3) hm rfl)) (fun σ5 h9 => ?_)
  exact frp_s h9
theorem wfX2_add {m : Nat} {σ0 : S2} (hm : 248 ||| m = m) (τ : Nat) (σ : S2) (a1 : Int32) (a2 : Int32) (h : Fr gC m σ0 σ) : FrP gC m σ0 (fX2_add τ σ a1 a2) := by
  unfold fX2_add
  exact (wfX2_add_0 hm _ _ _ _ h)
theorem wfX3_look_94 {m : Nat} {σ0 : S2} (hm : 1 ||| m = m) (τ : Nat) (k26 : S2 → Int32 → Int32 → Option (Unit × S2)) (hk26 : ∀ (y0 : S2) (y1 : Int32) (y2 : Int32), Fr gC m σ0 y0 → FrP gC m σ0 (k26 y0 y1 y2)) (σ : S2) (x3 : Int32) (x4 : Int32) (h : Fr gC m σ0 σ) : FrP gC m σ0 (fX3_look_94 τ k26 σ x3 x4) := by
  unfold fX3_look_94
  refine frp_nm (fun v1 => ?_)
  exact (hk26 _ _ _ h)
theorem wfX3_look_26 {m : Nat} {σ0 : S2} (hm : 1 ||| m = m) (τ : Nat) : ∀ (n : Nat) (σ : S2) (x3 : Int32) (x4 : Int32), Fr gC m σ0 σ → FrP gC m σ0 (fX3_look_26 τ n σ x3 x4) := by
  intro n
  induction n with
  | zero => intro σ x3 x4 _; exact frp_n
  | succ n ih =>
    intro σ x3 x4 h
    unfold fX3_look_26
    refine frp_if ?_ ?_
    · skip
      refine frp_bi (fun r2 => ?_)
      refine frp_w (Fr.wI h (tb_of (g := 0) hm rfl)) (fun σ4 h1 => ?_)
      exact frp_s h1
    · skip
      refine frp_if ?_ ?_
      · skip
        exact (wfX3_look_94 hm _ _ ih _ _ _ h)
      · skip
        refine frp_ck (fun b2 => ?_)
        refine frp_nm (fun v5 => ?_)
        refine frp_nm (fun v6 => ?_)
        refine frp_ck (fun b3 => ?_)
        refine frp_nm (fun v7 => ?_)
        refine frp_w (Fr.wI h (tb_of (g := 0) hm rfl)) (fun σ8 h4 => ?_)
        refine frp_ck (fun b5 => ?_)
        refine frp_nm (fun v9 => ?_)
        refine frp_w (Fr.wI h4 (tb_of (g := 0) hm rfl)) (fun σ10 h6 => ?_)
        exact (wfX3_look_94 hm _ _ ih _ _ _ h6)
theorem wfX3_look_0 {m : Nat} {σ0 : S2} (hm : 1 ||| m = m) (τ : Nat) (σ : S2) (h : Fr gC m σ0 σ) : FrP gC m σ0 (fX3_look_0 τ σ) := by
  unfold fX3_look_0
  refine frp_bi (fun r11 => ?_)
  refine frp_w (Fr.wI h (tb_of (g := 0) hm rfl)) (fun σ13 h1 => ?_)
  refine frp_w (Fr.wI h1 (tb_of (g := 0) hm rfl)) (fun σ14 h2 => ?_)
  refine frp_w (Fr.wI h2 (tb_of (g := 0) hm rfl)) (fun σ15 h3 => ?_)
  exact (wfX3_look_26 hm _ _ _ _ _ h3)
theorem wfX3_look {m : Nat} {σ0 : S2} (hm : 1 ||| m = m) (τ : Nat) (σ : S2) (h : Fr gC m σ0 σ) : FrP gC m σ0 (fX3_look τ σ) := by
  unfold fX3_look
  exact (wfX3_look_0 hm _ _ h)
theorem wfX3_readNumber_4 {m : Nat} {σ0 : S2} (hm : 1 ||| m = m) (τ : Nat) : ∀ (n : Nat) (σ : S2) (x1 : Int32) (x2 : Int32), Fr gC m σ0 σ → FrP gC m σ0 (fX3_readNumber_4 τ n σ x1 x2) := by
  intro n
  induction n with
  | zero => intro σ x1 x2 _; exact frp_n
  | succ n ih =>
    intro σ x1 x2 h
    unfold fX3_readNumber_4
    refine frp_if ?_ ?_
    · skip
      exact frp_s h
    · skip
      refine frp_bi (fun r1 => ?_)
      refine frp_bi (fun r3 => ?_)
      refine frp_if ?_ ?_
      · skip
        exact frp_s h
      · skip
        refine frp_bi (fun r5 => ?_)
        refine frp_nm (fun v7 => ?_)
        refine frp_w (Fr.wI h (tb_of (g := 0) hm rfl)) (fun σ8 h1 => ?_)
        refine frp_nm (fun v9 => ?_)
        exact (ih _ _ _ h1)
theorem wfX3_readNumber_0 {m : Nat} {σ0 : S2} (hm : 1 ||| m = m) (τ : Nat) (σ : S2) (h : Fr gC m σ0 σ) : FrP gC m σ0 (fX3_readNumber_0 τ σ) := by
  unfold fX3_readNumber_0
  exact (wfX3_readNumber_4 hm _ _ _ _ _ h)
theorem wfX3_readNumber {m : Nat} {σ0 : S2} (hm : 1 ||| m = m) (τ : Nat) (σ : S2) (h : Fr gC m σ0 σ) : FrP gC m σ0 (fX3_readNumber τ σ) := by
  unfold fX3_readNumber
  exact (wfX3_readNumber_0 hm _ _ h)
theorem wfX3_readSum_80 {m : Nat} {σ0 : S2} (hm : 1 ||| m = m) (τ : Nat) (qX3_readSum : S2 → Int32 → Option (Int32 × S2)) (qX3_readProduct : S2 → Int32 → Option (Int32 × S2)) (qX3_readOperand : S2 → Int32 → Option (Int32 × S2)) (qX3_readBracket : S2 → Int32 → Option (Int32 × S2)) (k8 : S2 → Int32 → Int32 → Int32 → Option (Int32 × S2)) (hqX3_readSum : ∀ (y0 : S2) (y1 : Int32), Fr gC m σ0 y0 → FrP gC m σ0 (qX3_readSum y0 y1)) (hqX3_readProduct : ∀ (y0 : S2) (y1 : Int32), Fr gC m σ0 y0 → FrP gC m σ0 (qX3_readProduct y0 y1)) (hqX3_readOperand : ∀ (y0 : S2) (y1 : Int32), Fr gC m σ0 y0 → FrP gC m σ0 (qX3_readOperand y0 y1)) (hqX3_readBracket : ∀ (y0 : S2) (y1 : Int32), Fr gC m σ0 y0 → FrP gC m σ0 (qX3_readBracket y0 y1)) (hk8 : ∀ (y0 : S2) (y1 : Int32) (y2 : Int32) (y3 : Int32), Fr gC m σ0 y0 → FrP gC m σ0 (k8 y0 y1 y2 y3)) (σ : S2) (x1 : Int32) (x3 : Int32) (s0 : Int32) (h : Fr gC m σ0 σ) : FrP gC m σ0 (fX3_readSum_80 τ qX3_readSum qX3_readProduct qX3_readOperand qX3_readBracket k8 σ x1 x3 s0) := by
  unfold fX3_readSum_80
  refine frp_nm (fun v1 => ?_)
  exact (hk8 _ _ _ _ h)
theorem wfX3_readSum_45 {m : Nat} {σ0 : S2} (hm : 1 ||| m = m) (τ : Nat) (qX3_readSum : S2 → Int32 → Option (Int32 × S2)) (qX3_readProduct : S2 → Int32 → Option (Int32 × S2)) (qX3_readOperand : S2 → Int32 → Option (Int32 × S2)) (qX3_readBracket : S2 → Int32 → Option (Int32 × S2)) (k8 : S2 → Int32 → Int32 → Int32 → Option (Int32 × S2)) (hqX3_readSum : ∀ (y0 : S2) (y1 : Int32), Fr gC m σ0 y0 → FrP gC m σ0 (qX3_readSum y0 y1)) (hqX3_readProduct : ∀ (y0 : S2) (y1 : Int32), Fr gC m σ0 y0 → FrP gC m σ0 (qX3_readProduct y0 y1)) (hqX3_readOperand : ∀ (y0 : S2) (y1 : Int32), Fr gC m σ0 y0 → FrP gC m σ0 (qX3_readOperand y0 y1)) (hqX3_readBracket : ∀ (y0 : S2) (y1 : Int32), Fr gC m σ0 y0 → FrP gC m σ0 (qX3_readBracket y0 y1)) (hk8 : ∀ (y0 : S2) (y1 : Int32) (y2 : Int32) (y3 : Int32), Fr gC m σ0 y0 → FrP gC m σ0 (k8 y0 y1 y2 y3)) (σ : S2) (x1 : Int32) (x2 : Int32) (x3 : Int32) (x4 : Int32) (h : Fr gC m σ0 σ) : FrP gC m σ0 (fX3_readSum_45 τ qX3_readSum qX3_readProduct qX3_readOperand qX3_readBracket k8 σ x1 x2 x3 x4) := by
  unfold fX3_readSum_45
  refine frp_w (Fr.wI h (tb_of (g := 0) hm rfl)) (fun σ2 h1 => ?_)
  refine frp_bs (hqX3_readProduct _ _ h1) (fun r3 σ4 h2 => ?_)
  refine frp_if ?_ ?_
  · skip
    exact (wfX3_readSum_80 hm _ _ _ _ _ _ hqX3_readSum hqX3_readProduct hqX3_readOperand hqX3_readBracket hk8 _ _ _ _ h2)
  · skip
    exact (wfX3_readSum_80 hm _ _ _ _ _ _ hqX3_readSum hqX3_readProduct hqX3_readOperand hqX3_readBracket hk8 _ _ _ _ h2)
theorem wfX3_readSum_8 {m : Nat} {σ0 : S2} (hm : 1 ||| m = m) (τ : Nat) (qX3_readSum : S2 → Int32 → Option (Int32 × S2)) (qX3_readProduct : S2 → Int32 → Option (Int32 × S2)) (qX3_readOperand : S2 → Int32 → Option (Int32 × S2)) (qX3_readBracket : S2 → Int32 → Option (Int32 × S2)) (hqX3_readSum : ∀ (y0 : S2) (y1 : Int32), Fr gC m σ0 y0 → FrP gC m σ0 (qX3_readSum y0 y1)) (hqX3_readProduct : ∀ (y0 : S2) (y1 : Int32), Fr gC m σ0 y0 → FrP gC m σ0 (qX3_readProduct y0 y1)) (hqX3_readOperand : ∀ (y0 : S2) (y1 : Int32), Fr gC m σ0 y0 → FrP gC m σ0 (qX3_readOperand y0 y1)) (hqX3_readBracket : ∀ (y0 : S2) (y1 : Int32), Fr gC m σ0 y0 → FrP gC m σ0 (qX3_readBracket y0 y1)) : ∀ (n : Nat) (σ : S2) (x1 : Int32) (x2 : Int32) (x3 : Int32), Fr gC m σ0 σ → FrP gC m σ0 (fX3_readSum_8 τ qX3_readSum qX3_readProduct qX3_readOperand qX3_readBracket n σ x1 x2 x3) := by
  intro n
  induction n with
  | zero => intro σ x1 x2 x3 _; exact frp_n
  | succ n ih =>
    intro σ x1 x2 x3 h
    unfold fX3_readSum_8
    refine frp_if ?_ ?_
    · skip
      exact frp_s h
    · skip
      refine frp_if ?_ ?_
      · skip
        refine frp_bi (fun r6 => ?_)
        refine frp_if ?_ ?_
        · skip
          exact (wfX3_readSum_45 hm _ _ _ _ _ _ hqX3_readSum hqX3_readProduct hqX3_readOperand hqX3_readBracket ih _ _ _ _ _ h)
        · skip
          refine frp_if ?_ ?_
          · skip
            exact (wfX3_readSum_45 hm _ _ _ _ _ _ hqX3_readSum hqX3_readProduct hqX3_readOperand hqX3_readBracket ih _ _ _ _ _ h)
          · skip
            exact frp_s h
      · skip
        exact frp_s h
theorem wfX3_readSum_0 {m : Nat} {σ0 : S2} (hm : 1 ||| m = m) (τ : Nat) (qX3_readSum : S2 → Int32 → Option (Int32 × S2)) (qX3_readProduct : S2 → Int32 → Option (Int32 × S2)) (qX3_readOperand : S2 → Int32 → Option (Int32 × S2)) (qX3_readBracket : S2 → Int32 → Option (Int32 × S2)) (hqX3_readSum : ∀ (y0 : S2) (y1 : Int32), Fr gC m σ0 y0 → FrP gC m σ0 (qX3_readSum y0 y1)) (hqX3_readProduct : ∀ (y0 : S2) (y1 : Int32), Fr gC m σ0 y0 → FrP gC m σ0 (qX3_readProduct y0 y1)) (hqX3_readOperand : ∀ (y0 : S2) (y1 : Int32), Fr gC m σ0 y0 → FrP gC m σ0 (qX3_readOperand y0 y1)) (hqX3_readBracket : ∀ (y0 : S2) (y1 : Int32), Fr gC m σ0 y0 → FrP gC m σ0 (qX3_readBracket y0 y1)) (σ : S2) (x1 : Int32) (h : Fr gC m σ0 σ) : FrP gC m σ0 (fX3_readSum_0 τ qX3_readSum qX3_readProduct qX3_readOperand qX3_readBracket σ x1) := by
  unfold fX3_readSum_0
  refine frp_bs (hqX3_readProduct _ _ h) (fun r8 σ9 h1 => ?_)
  exact (wfX3_readSum_8 hm _ _ _ _ _ hqX3_readSum hqX3_readProduct hqX3_readOperand hqX3_readBracket _ _ _ _ _ h1)
theorem weX3_readSum {m : Nat} {σ0 : S2} (hm : 1 ||| m = m) (τ : Nat) (qX3_readSum : S2 → Int32 → Option (Int32 × S2)) (qX3_readProduct : S2 → Int32 → Option (Int32 × S2)) (qX3_readOperand : S2 → Int32 → Option (Int32 × S2)) (qX3_readBracket : S2 → Int32 → Option (Int32 × S2)) (hqX3_readSum : ∀ (y0 : S2) (y1 : Int32), Fr gC m σ0 y0 → FrP gC m σ0 (qX3_readSum y0 y1)) (hqX3_readProduct : ∀ (y0 : S2) (y1 : Int32), Fr gC m σ0 y0 → FrP gC m σ0 (qX3_readProduct y0 y1)) (hqX3_readOperand : ∀ (y0 : S2) (y1 : Int32), Fr gC m σ0 y0 → FrP gC m σ0 (qX3_readOperand y0 y1)) (hqX3_readBracket : ∀ (y0 : S2) (y1 : Int32), Fr gC m σ0 y0 → FrP gC m σ0 (qX3_readBracket y0 y1)) (σ : S2) (a1 : Int32) (h : Fr gC m σ0 σ) : FrP gC m σ0 (eX3_readSum τ qX3_readSum qX3_readProduct qX3_readOperand qX3_readBracket σ a1) := by
  unfold eX3_readSum
  exact (wfX3_readSum_0 hm _ _ _ _ _ hqX3_readSum hqX3_readProduct hqX3_readOperand hqX3_readBracket _ _ h)
theorem wfX3_readProduct_113 {m : Nat} {σ0 : S2} (hm : 1 ||| m = m) (τ : Nat) (qX3_readSum : S2 → Int32 → Option (Int32 × S2)) (qX3_readProduct : S2 → Int32 → Option (Int32 × S2)) (qX3_readOperand : S2 → Int32 → Option (Int32 × S2)) (qX3_readBracket : S2 → Int32 → Option (Int32 × S2)) (k8 : S2 → Int32 → Int32 → Int32 → Option (Int32 × S2)) (hqX3_readSum : ∀ (y0 : S2) (y1 : Int32), Fr gC m σ0 y0 → FrP gC m σ0 (qX3_readSum y0 y1)) (hqX3_readProduct : ∀ (y0 : S2) (y1 : Int32), Fr gC m σ0 y0 → FrP gC m σ0 (qX3_readProduct y0 y1)) (hqX3_readOperand : ∀ (y0 : S2) (y1 : Int32), Fr gC m σ0 y0 → FrP gC m σ0 (qX3_readOperand y0 y1)) (hqX3_readBracket : ∀ (y0 : S2) (y1 : Int32), Fr gC m σ0 y0 → FrP gC m σ0 (qX3_readBracket y0 y1)) (hk8 : ∀ (y0 : S2) (y1 : Int32) (y2 : Int32) (y3 : Int32), Fr gC m σ0 y0 → FrP gC m σ0 (k8 y0 y1 y2 y3)) (σ : S2) (x1 : Int32) (x2 : Int32) (x3 : Int32) (h : Fr gC m σ0 σ) : FrP gC m σ0 (fX3_readProduct_113 τ qX3_readSum qX3_readProduct qX3_readOperand qX3_readBracket k8 σ x1 x2 x3) := by
  unfold fX3_readProduct_113
  refine frp_nm (fun v1 => ?_)
  exact (hk8 _ _ _ _ h)
theorem wfX3_readProduct_112 {m : Nat} {σ0 : S2} (hm : 1 ||| m = m) (τ : Nat) (qX3_readSum : S2 → Int32 → Option (Int32 × S2)) (qX3_readProduct : S2 → Int32 → Option (Int32 × S2)) (qX3_readOperand : S2 → Int32 → Option (Int32 × S2)) (qX3_readBracket : S2 → Int32 → Option (Int32 × S2)) (k8 : S2 → Int32 → Int32 → Int32 → Option (Int32 × S2)) (hqX3_readSum : ∀ (y0 : S2) (y1 : Int32), Fr gC m σ0 y0 → FrP gC m σ0 (qX3_readSum y0 y1)) (hqX3_readProduct : ∀ (y0 : S2) (y1 : Int32), Fr gC m σ0 y0 → FrP gC m σ0 (qX3_readProduct y0 y1)) (hqX3_readOperand : ∀ (y0 : S2) (y1 : Int32), Fr gC m σ0 y0 → FrP gC m σ0 (qX3_readOperand y0 y1)) (hqX3_readBracket : ∀ (y0 : S2) (y1 : Int32), Fr gC m σ0 y0 → FrP gC m σ0 (qX3_readBracket y0 y1)) (hk8 : ∀ (y0 : S2) (y1 : Int32) (y2 : Int32) (y3 : Int32), Fr gC m σ0 y0 → FrP gC m σ0 (k8 y0 y1 y2 y3)) (σ : S2) (x1 : Int32) (x3 : Int32) (s0 : Int32) (h : Fr gC m σ0 σ) : FrP gC m σ0 (fX3_readProduct_112 τ qX3_readSum qX3_readProduct qX3_readOperand qX3_readBracket k8 σ x1 x3 s0) := by
  unfold fX3_readProduct_112
  exact (wfX3_readProduct_113 hm _ _ _ _ _ _ hqX3_readSum hqX3_readProduct hqX3_readOperand hqX3_readBracket hk8 _ _ _ _ h)
theorem wfX3_readProduct_52 {m : Nat} {σ0 : S2} (hm : 1 ||| m = m) (τ : Nat) (qX3_readSum : S2 → Int32 → Option (Int32 × S2)) (qX3_readProduct : S2 → Int32 → Option (Int32 × S2)) (qX3_readOperand : S2 → Int32 → Option (Int32 × S2)) (qX3_readBracket : S2 → Int32 → Option (Int32 × S2)) (k8 : S2 → Int32 → Int32 → Int32 → Option (Int32 × S2)) (hqX3_readSum : ∀ (y0 : S2) (y1 : Int32), Fr gC m σ0 y0 → FrP gC m σ0 (qX3_readSum y0 y1)) (hqX3_readProduct : ∀ (y0 : S2) (y1 : Int32), Fr gC m σ0 y0 → FrP gC m σ0 (qX3_readProduct y0 y1)) (hqX3_readOperand : ∀ (y0 : S2) (y1 : Int32), Fr gC m σ0 y0 → FrP gC m σ0 (qX3_readOperand y0 y1)) (hqX3_readBracket : ∀ (y0 : S2) (y1 : Int32), Fr gC m σ0 y0 → FrP gC m σ0 (qX3_readBracket y0 y1)) (hk8 : ∀ (y0 : S2) (y1 : Int32) (y2 : Int32) (y3 : Int32), Fr gC m σ0 y0 → FrP gC m σ0 (k8 y0 y1 y2 y3)) (σ : S2) (x1 : Int32) (x2 : Int32) (x3 : Int32) (x4 : Int32) (h : Fr gC m σ0 σ) : FrP gC m σ0 (fX3_readProduct_52 τ qX3_readSum qX3_readProduct qX3_readOperand qX3_readBracket k8 σ x1 x2 x3 x4) := by
  unfold fX3_readProduct_52
  refine frp_w (Fr.wI h (tb_of (g := 0) hm rfl)) (fun σ2 h1 => ?_)
  refine frp_bs (hqX3_readOperand _ _ h1) (fun r3 σ4 h2 => ?_)
  refine frp_if ?_ ?_
  · skip
    refine frp_nm (fun v8 => ?_)
    exact (wfX3_readProduct_113 hm _ _ _ _ _ _ hqX3_readSum hqX3_readProduct hqX3_readOperand hqX3_readBracket hk8 _ _ _ _ h2)
  · skip
    refine frp_if ?_ ?_
    · skip
      exact (wfX3_readProduct_113 hm _ _ _ _ _ _ hqX3_readSum hqX3_readProduct hqX3_readOperand hqX3_readBracket hk8 _ _ _ _ h2)
    · skip
      refine frp_if ?_ ?_
      · skip
        refine frp_dz ?_
        exact (wfX3_readProduct_112 hm _ _ _ _ _ _ hqX3_readSum hqX3_readProduct hqX3_readOperand hqX3_readBracket hk8 _ _ _ _ h2)
      · skip
        refine frp_dz ?_
        exact (wfX3_readProduct_112 hm _ _ _ _ _ _ hqX3_readSum hqX3_readProduct hqX3_readOperand hqX3_readBracket hk8 _ _ _ _ h2)
theorem wfX3_readProduct_8 {m : Nat} {σ0 : S2} (hm : 1 ||| m = m) (τ : Nat) (qX3_readSum : S2 → Int32 → Option (Int32 × S2)) (qX3_readProduct : S2 → Int32 → Option (Int32 × S2)) (qX3_readOperand : S2 → Int32 → Option (Int32 × S2)) (qX3_readBracket : S2 → Int32 → Option (Int32 × S2)) (hqX3_readSum : ∀ (y0 : S2) (y1 : Int32), Fr gC m σ0 y0 → FrP gC m σ0 (qX3_readSum y0 y1)) (hqX3_readProduct : ∀ (y0 : S2) (y1 : Int32), Fr gC m σ0 y0 → FrP gC m σ0 (qX3_readProduct y0 y1)) (hqX3_readOperand : ∀ (y0 : S2) (y1 : Int32), Fr gC m σ0 y0 → FrP gC m σ0 (qX3_readOperand y0 y1)) (hqX3_readBracket : ∀ (y0 : S2) (y1 : Int32), Fr gC m σ0 y0 → FrP gC m σ0 (qX3_readBracket y0 y1)) : ∀ (n : Nat) (σ : S2) (x1 : Int32) (x2 : Int32) (x3 : Int32), Fr gC m σ0 σ → FrP gC m σ0 (fX3_readProduct_8 τ qX3_readSum qX3_readProduct qX3_readOperand qX3_readBracket n σ x1 x2 x3) := by
  intro n
  induction n with
  | zero => intro σ x1 x2 x3 _; exact frp_n
  | succ n ih =>
    intro σ x1 x2 x3 h
    unfold fX3_readProduct_8
    refine frp_if ?_ ?_
    · skip
      exact frp_s h
    · skip
      refine frp_if ?_ ?_
      · skip
        refine frp_bi (fun r9 => ?_)
        refine frp_if ?_ ?_
        · skip
          exact (wfX3_readProduct_52 hm _ _ _ _ _ _ hqX3_readSum hqX3_readProduct hqX3_readOperand hqX3_readBracket ih _ _ _ _ _ h)
        · skip
          refine frp_if ?_ ?_
          · skip
            exact (wfX3_readProduct_52 hm _ _ _ _ _ _ hqX3_readSum hqX3_readProduct hqX3_readOperand hqX3_readBracket ih _ _ _ _ _ h)
          · skip
            refine frp_if ?_ ?_
            · skip
              exact (wfX3_readProduct_52 hm _ _ _ _ _ _ hqX3_readSum hqX3_readProduct hqX3_readOperand hqX3_readBracket ih _ _ _ _ _ h)
            · skip
              exact frp_s h
      · skip
        exact frp_s h
theorem wfX3_readProduct_0 {m : Nat} {σ0 : S2} (hm : 1 ||| m = m) (τ : Nat) (qX3_readSum : S2 → Int32 → Option (Int32 × S2)) (qX3_readProduct : S2 → Int32 → Option (Int32 × S2)) (qX3_readOperand : S2 → Int32 → Option (Int32 × S2)) (qX3_readBracket : S2 → Int32 → Option (Int32 × S2)) (hqX3_readSum : ∀ (y0 : S2) (y1 : Int32), Fr gC m σ0 y0 → FrP gC m σ0 (qX3_readSum y0 y1)) (hqX3_readProduct : ∀ (y0 : S2) (y1 : Int32), Fr gC m σ0 y0 → FrP gC m σ0 (qX3_readProduct y0 y1)) (hqX3_readOperand : ∀ (y0 : S2) (y1 : Int32), Fr gC m σ0 y0 → FrP gC m σ0 (qX3_readOperand y0 y1)) (hqX3_readBracket : ∀ (y0 : S2) (y1 : Int32), Fr gC m σ0 y0 → FrP gC m σ0 (qX3_readBracket y0 y1)) (σ : S2) (x1 : Int32) (h : Fr gC m σ0 σ) : FrP gC m σ0 (fX3_readProduct_0 τ qX3_readSum qX3_readProduct qX3_readOperand qX3_readBracket σ x1) := by
  unfold fX3_readProduct_0
  refine frp_bs (hqX3_readOperand _ _ h) (fun r11 σ12 h1 => ?_)
  exact (wfX3_readProduct_8 hm _ _ _ _ _ hqX3_readSum hqX3_readProduct hqX3_readOperand hqX3_readBracket _ _ _ _ _ h1)
theorem weX3_readProduct {m : Nat} {σ0 : S2} (hm : 1 ||| m = m) (τ : Nat) (qX3_readSum : S2 → Int32 → Option (Int32 × S2)) (qX3_readProduct : S2 → Int32 → Option (Int32 × S2)) (qX3_readOperand : S2 → Int32 → Option (Int32 × S2)) (qX3_readBracket : S2 → Int32 → Option (Int32 × S2)) (hqX3_readSum : ∀ (y0 : S2) (y1 : Int32), Fr gC m σ0 y0 → FrP gC m σ0 (qX3_readSum y0 y1)) (hqX3_readProduct : ∀ (y0 : S2) (y1 : Int32), Fr gC m σ0 y0 → FrP gC m σ0 (qX3_readProduct y0 y1)) (hqX3_readOperand : ∀ (y0 : S2) (y1 : Int32), Fr gC m σ0 y0 → FrP gC m σ0 (qX3_readOperand y0 y1)) (hqX3_readBracket : ∀ (y0 : S2) (y1 : Int32), Fr gC m σ0 y0 → FrP gC m σ0 (qX3_readBracket y0 y1)) (σ : S2) (a1 : Int32) (h : Fr gC m σ0 σ) : FrP gC m σ0 (eX3_readProduct τ qX3_readSum qX3_readProduct qX3_readOperand qX3_readBracket σ a1) := by
  unfold eX3_readProduct
  exact (wfX3_readProduct_0 hm _ _ _ _ _ hqX3_readSum hqX3_readProduct hqX3_readOperand hqX3_readBracket _ _ h)
theorem wfX3_readOperand_122 {m : Nat} {σ0 : S2} (hm : 1 ||| m = m) (τ : Nat) (qX3_readSum : S2 → Int32 → Option (Int32 × S2)) (qX3_readProduct : S2 → Int32 → Option (Int32 × S2)) (qX3_readOperand : S2 → Int32 → Option (Int32 × S2)) (qX3_readBracket : S2 → Int32 → Option (Int32 × S2)) (hqX3_readSum : ∀ (y0 : S2) (y1 : Int32), Fr gC m σ0 y0 → FrP gC m σ0 (qX3_readSum y0 y1)) (hqX3_readProduct : ∀ (y0 : S2) (y1 : Int32), Fr gC m σ0 y0 → FrP gC m σ0 (qX3_readProduct y0 y1)) (hqX3_readOperand : ∀ (y0 : S2) (y1 : Int32), Fr gC m σ0 y0 → FrP gC m σ0 (qX3_readOperand y0 y1)) (hqX3_readBracket : ∀ (y0 : S2) (y1 : Int32), Fr gC m σ0 y0 → FrP gC m σ0 (qX3_readBracket y0 y1)) (σ : S2) (x3 : Int32) (h : Fr gC m σ0 σ) : FrP gC m σ0 (fX3_readOperand_122 τ qX3_readSum qX3_readProduct qX3_readOperand qX3_readBracket σ x3) := by
  unfold fX3_readOperand_122
  refine frp_w (Fr.wI h (tb_of (g := 0) hm rfl)) (fun σ1 h1 => ?_)
  exact frp_s h1
theorem wfX3_readOperand_34 {m : Nat} {σ0 : S2} (hm : 1 ||| m = m) (τ : Nat) (qX3_readSum : S2 → Int32 → Option (Int32 × S2)) (qX3_readProduct : S2 → Int32 → Option (Int32 × S2)) (qX3_readOperand : S2 → Int32 → Option (Int32 × S2)) (qX3_readBracket : S2 → Int32 → Option (Int32 × S2)) (hqX3_readSum : ∀ (y0 : S2) (y1 : Int32), Fr gC m σ0 y0 → FrP gC m σ0 (qX3_readSum y0 y1)) (hqX3_readProduct : ∀ (y0 : S2) (y1 : Int32), Fr gC m σ0 y0 → FrP gC m σ0 (qX3_readProduct y0 y1)) (hqX3_readOperand : ∀ (y0 : S2) (y1 : Int32), Fr gC m σ0 y0 → FrP gC m σ0 (qX3_readOperand y0 y1)) (hqX3_readBracket : ∀ (y0 : S2) (y1 : Int32), Fr gC m σ0 y0 → FrP gC m σ0 (qX3_readBracket y0 y1)) (σ : S2) (x2 : Int32) (h : Fr gC m σ0 σ) : FrP gC m σ0 (fX3_readOperand_34 τ qX3_readSum qX3_readProduct qX3_readOperand qX3_readBracket σ x2) := by
  unfold fX3_readOperand_34
  refine frp_if ?_ ?_
  · skip
    refine frp_nm (fun v3 => ?_)
    exact (wfX3_readOperand_122 hm _ _ _ _ _ hqX3_readSum hqX3_readProduct hqX3_readOperand hqX3_readBracket _ _ h)
  · skip
    refine frp_if ?_ ?_
    · skip
      refine frp_nm (fun v5 => ?_)
      exact (wfX3_readOperand_122 hm _ _ _ _ _ hqX3_readSum hqX3_readProduct hqX3_readOperand hqX3_readBracket _ _ h)
    · skip
      refine frp_if ?_ ?_
      · skip
        refine frp_nm (fun v7 => ?_)
        exact (wfX3_readOperand_122 hm _ _ _ _ _ hqX3_readSum hqX3_readProduct hqX3_readOperand hqX3_readBracket _ _ h)
      · skip
        refine frp_if ?_ ?_
        · skip
          refine frp_nm (fun v9 => ?_)
          exact (wfX3_readOperand_122 hm _ _ _ _ _ hqX3_readSum hqX3_readProduct hqX3_readOperand hqX3_readBracket _ _ h)
        · skip
          refine frp_w (Fr.wI h (tb_of (g := 0) hm rfl)) (fun σ10 h1 => ?_)
          exact frp_s h1
theorem wfX3_readOperand_0 {m : Nat} {σ0 : S2} (hm : 1 ||| m = m) (τ : Nat) (qX3_readSum : S2 → Int32 → Option (Int32 × S2)) (qX3_readProduct : S2 → Int32 → Option (Int32 × S2)) (qX3_readOperand : S2 → Int32 → Option (Int32 × S2)) (qX3_readBracket : S2 → Int32 → Option (Int32 × S2)) (hqX3_readSum : ∀ (y0 : S2) (y1 : Int32), Fr gC m σ0 y0 → FrP gC m σ0 (qX3_readSum y0 y1)) (hqX3_readProduct : ∀ (y0 : S2) (y1 : Int32), Fr gC m σ0 y0 → FrP gC m σ0 (qX3_readProduct y0 y1)) (hqX3_readOperand : ∀ (y0 : S2) (y1 : Int32), Fr gC m σ0 y0 → FrP gC m σ0 (qX3_readOperand y0 y1)) (hqX3_readBracket : ∀ (y0 : S2) (y1 : Int32), Fr gC m σ0 y0 → FrP gC m σ0 (qX3_readBracket y0 y1)) (σ : S2) (x1 : Int32) (h : Fr gC m σ0 σ) : FrP gC m σ0 (fX3_readOperand_0 τ qX3_readSum qX3_readProduct qX3_readOperand qX3_readBracket σ x1) := by
  unfold fX3_readOperand_0
  refine frp_bi (fun r11 => ?_)
  refine frp_bi (fun r13 => ?_)
  refine frp_if ?_ ?_
  · skip
    refine frp_if ?_ ?_
    · skip
      refine frp_if ?_ ?_
      · skip
        exact (wfX3_readOperand_34 hm _ _ _ _ _ hqX3_readSum hqX3_readProduct hqX3_readOperand hqX3_readBracket _ _ h)
      · skip
        refine frp_bs (hqX3_readBracket _ _ h) (fun r15 σ16 h1 => ?_)
        exact frp_s h1
    · skip
      exact (wfX3_readOperand_34 hm _ _ _ _ _ hqX3_readSum hqX3_readProduct hqX3_readOperand hqX3_readBracket _ _ h)
  · skip
    refine frp_bs (wfX3_readNumber hm _ _ h) (fun r18 σ19 h2 => ?_)
    exact frp_s h2
theorem weX3_readOperand {m : Nat} {σ0 : S2} (hm : 1 ||| m = m) (τ : Nat) (qX3_readSum : S2 → Int32 → Option (Int32 × S2)) (qX3_readProduct : S2 → Int32 → Option (Int32 × S2)) (qX3_readOperand : S2 → Int32 → Option (Int32 × S2)) (qX3_readBracket : S2 → Int32 → Option (Int32 × S2)) (hqX3_readSum : ∀ (y0 : S2) (y1 : Int32), Fr gC m σ0 y0 → FrP gC m σ0 (qX3_readSum y0 y1)) (hqX3_readProduct : ∀ (y0 : S2) (y1 : Int32), Fr gC m σ0 y0 → FrP gC m σ0 (qX3_readProduct y0 y1)) (hqX3_readOperand : ∀ (y0 : S2) (y1 : Int32), Fr gC m σ0 y0 → FrP gC m σ0 (qX3_readOperand y0 y1)) (hqX3_readBracket : ∀ (y0 : S2) (y1 : Int32), Fr gC m σ0 y0 → FrP gC m σ0 (qX3_readBracket y0 y1)) (σ : S2) (a1 : Int32) (h : Fr gC m σ0 σ) : FrP gC m σ0 (eX3_readOperand τ qX3_readSum qX3_readProduct qX3_readOperand qX3_readBracket σ a1) := by
  unfold eX3_readOperand
  exact (wfX3_readOperand_0 hm _ _ _ _ _ hqX3_readSum hqX3_readProduct hqX3_readOperand hqX3_readBracket _ _ h)
theorem wfX3_readBracket_0 {m : Nat} {σ0 : S2} (hm : 1 ||| m = m) (τ : Nat) (qX3_readSum : S2 → Int32 → Option (Int32 × S2)) (qX3_readProduct : S2 → Int32 → Option (Int32 × S2)) (qX3_readOperand : S2 → Int32 → Option (Int32 × S2)) (qX3_readBracket : S2 → Int32 → Option (Int32 × S2)) (hqX3_readSum : ∀ (y0 : S2) (y1 : Int32), Fr gC m σ0 y0 → FrP gC m σ0 (qX3_readSum y0 y1)) (hqX3_readProduct : ∀ (y0 : S2) (y1 : Int32), Fr gC m σ0 y0 → FrP gC m σ0 (qX3_readProduct y0 y1)) (hqX3_readOperand : ∀ (y0 : S2) (y1 : Int32), Fr gC m σ0 y0 → FrP gC m σ0 (qX3_readOperand y0 y1)) (hqX3_readBracket : ∀ (y0 : S2) (y1 : Int32), Fr gC m σ0 y0 → FrP gC m σ0 (qX3_readBracket y0 y1)) (σ : S2) (x1 : Int32) (h : Fr gC m σ0 σ) : FrP gC m σ0 (fX3_readBracket_0 τ qX3_readSum qX3_readProduct qX3_readOperand qX3_readBracket σ x1) := by
  unfold fX3_readBracket_0
  refine frp_w (Fr.wI h (tb_of (g := 0) hm rfl)) (fun σ1 h1 => ?_)
  refine frp_bs (hqX3_readSum _ _ h1) (fun r2 σ3 h2 => ?_)
  refine frp_if ?_ ?_
  · skip
    refine frp_bi (fun r5 => ?_)
    refine frp_if ?_ ?_
    · skip
      refine frp_w (Fr.wI h2 (tb_of (g := 0) hm rfl)) (fun σ8 h3 => ?_)
      exact frp_s h3
    · skip
      refine frp_w (Fr.wI h2 (tb_of (g := 0) hm rfl)) (fun σ7 h4 => ?_)
      exact frp_s h4
  · skip
    exact frp_s h2
theorem weX3_readBracket {m : Nat} {σ0 : S2} (hm : 1 ||| m = m) (τ : Nat) (qX3_readSum : S2 → Int32 → Option (Int32 × S2)) (qX3_readProduct : S2 → Int32 → Option (Int32 × S2)) (qX3_readOperand : S2 → Int32 → Option (Int32 × S2)) (qX3_readBracket : S2 → Int32 → Option (Int32 × S2)) (hqX3_readSum : ∀ (y0 : S2) (y1 : Int32), Fr gC m σ0 y0 → FrP gC m σ0 (qX3_readSum y0 y1)) (hqX3_readProduct : ∀ (y0 : S2) (y1 : Int32), Fr gC m σ0 y0 → FrP gC m σ0 (qX3_readProduct y0 y1)) (hqX3_readOperand : ∀ (y0 : S2) (y1 : Int32), Fr gC m σ0 y0 → FrP gC m σ0 (qX3_readOperand y0 y1)) (hqX3_readBracket : ∀ (y0 : S2) (y1 : Int32), Fr gC m σ0 y0 → FrP gC m σ0 (qX3_readBracket y0 y1)) (σ : S2) (a1 : Int32) (h : Fr gC m σ0 σ) : FrP gC m σ0 (eX3_readBracket τ qX3_readSum qX3_readProduct qX3_readOperand qX3_readBracket σ a1) := by
  unfold eX3_readBracket
  exact (wfX3_readBracket_0 hm _ _ _ _ _ hqX3_readSum hqX3_readProduct hqX3_readOperand hqX3_readBracket _ _ h)
theorem wGX3_readSum {m : Nat} {σ0 : S2} (hm : 1 ||| m = m) (τ : Nat) : ∀ (d j : Nat) (σ : S2) (a1 : Int32), Fr gC m σ0 σ → FrP gC m σ0 (GX3_readSum τ d j σ a1) := by
  intro d
  induction d with
  | zero => intro j σ a1 _; exact frp_n
  | succ d ih =>
    intro j σ a1 h
    match j with
    | 0 => exact (weX3_readSum hm _ _ _ _ _ (ih 0) (ih 1) (ih 2) (ih 3) _ _ h)
    | 1 => exact (weX3_readProduct hm _ _ _ _ _ (ih 0) (ih 1) (ih 2) (ih 3) _ _ h)
    | 2 => exact (weX3_readOperand hm _ _ _ _ _ (ih 0) (ih 1) (ih 2) (ih 3) _ _ h)
    | j + 3 => exact (weX3_readBracket hm _ _ _ _ _ (ih 0) (ih 1) (ih 2) (ih 3) _ _ h)
theorem wfX3_readSum {m : Nat} {σ0 : S2} (hm : 1 ||| m = m) (τ : Nat) (σ : S2) (a1 : Int32) (h : Fr gC m σ0 σ) : FrP gC m σ0 (fX3_readSum τ σ a1) := by
  unfold fX3_readSum
  exact (wGX3_readSum hm _ _ _ _ _ h)
theorem wfX3_readProduct {m : Nat} {σ0 : S2} (hm : 1 ||| m = m) (τ : Nat) (σ : S2) (a1 : Int32) (h : Fr gC m σ0 σ) : FrP gC m σ0 (fX3_readProduct τ σ a1) := by
  unfold fX3_readProduct
  exact (wGX3_readSum hm _ _ _ _ _ h)
theorem wfX3_readOperand {m : Nat} {σ0 : S2} (hm : 1 ||| m = m) (τ : Nat) (σ : S2) (a1 : Int32) (h : Fr gC m σ0 σ) : FrP gC m σ0 (fX3_readOperand τ σ a1) := by
  unfold fX3_readOperand
  exact (wGX3_readSum hm _ _ _ _ _ h)
theorem wfX3_readBracket {m : Nat} {σ0 : S2} (hm : 1 ||| m = m) (τ : Nat) (σ : S2) (a1 : Int32) (h : Fr gC m σ0 σ) : FrP gC m σ0 (fX3_readBracket τ σ a1) := by
  unfold fX3_readBracket
  exact (wGX3_readSum hm _ _ _ _ _ h)
theorem wfX3_readWay_17 {m : Nat} {σ0 : S2} (hm : 1 ||| m = m) (τ : Nat) (σ : S2) (h : Fr gC m σ0 σ) : FrP gC m σ0 (fX3_readWay_17 τ σ) := by
  unfold fX3_readWay_17
  refine frp_w (Fr.wI h (tb_of (g := 0) hm rfl)) (fun σ1 h1 => ?_)
  exact frp_s h1
theorem wfX3_readWay_0 {m : Nat} {σ0 : S2} (hm : 1 ||| m = m) (τ : Nat) (σ : S2) (h : Fr gC m σ0 σ) : FrP gC m σ0 (fX3_readWay_0 τ σ) := by
  unfold fX3_readWay_0
  refine frp_bi (fun r2 => ?_)
  refine frp_nm (fun v4 => ?_)
  refine frp_if ?_ ?_
  · skip
    exact (wfX3_readWay_17 hm _ _ h)
  · skip
    refine frp_if ?_ ?_
    · skip
      refine frp_w (Fr.wI h (tb_of (g := 0) hm rfl)) (fun σ5 h1 => ?_)
      exact frp_s h1
    · skip
      exact (wfX3_readWay_17 hm _ _ h)
theorem wfX3_readWay {m : Nat} {σ0 : S2} (hm : 1 ||| m = m) (τ : Nat) (σ : S2) (h : Fr gC m σ0 σ) : FrP gC m σ0 (fX3_readWay τ σ) := by
  unfold fX3_readWay
  exact (wfX3_readWay_0 hm _ _ h)
theorem wfX3_readPart_50 {m : Nat} {σ0 : S2} (hm : 8388609 ||| m = m) (τ : Nat) (σ : S2) (h : Fr gC m σ0 σ) : FrP gC m σ0 (fX3_readPart_50 τ σ) := by
  unfold fX3_readPart_50
  refine frp_w (Fr.wI h (tb_of (g := 0) hm rfl)) (fun σ1 h1 => ?_)
  exact frp_s h1
theorem wfX3_readPart_36 {m : Nat} {σ0 : S2} (hm : 8388609 ||| m = m) (τ : Nat) (σ : S2) (x2 : Int32) (x3 : Int32) (s0 : Int32) (h : Fr gC m σ0 σ) : FrP gC m σ0 (fX3_readPart_36 τ σ x2 x3 s0) := by
  unfold fX3_readPart_36
  refine frp_if ?_ ?_
  · skip
    exact (wfX3_readPart_50 hm _ _ h)
  · skip
    refine frp_if ?_ ?_
    · skip
      refine frp_w (Fr.wI h (tb_of (g := 0) hm rfl)) (fun σ2 h1 => ?_)
      refine frp_bi (fun r3 => ?_)
      refine frp_if ?_ ?_
      · skip
        refine frp_w (Fr.wI h1 (tb_of (g := 0) hm rfl)) (fun σ5 h2 => ?_)
        refine frp_if ?_ ?_
        · skip
          refine frp_bs (wfX3_readSum (tb_sub (a := 8388609) rfl hm) _ _ _ h2) (fun r16 σ17 h3 => ?_)
          refine frp_bi (fun r19 => ?_)
          refine frp_w (Fr.wI h3 (tb_of (g := 23) hm rfl)) (fun σ21 h4 => ?_)
          exact frp_s h4
        · skip
          refine frp_if ?_ ?_
          · skip
            refine frp_bs (wfX3_readSum (tb_sub (a := 8388609) rfl hm) _ _ _ h2) (fun r10 σ11 h5 => ?_)
            refine frp_bi (fun r13 => ?_)
            refine frp_w (Fr.wI h5 (tb_of (g := 23) hm rfl)) (fun σ15 h6 => ?_)
            exact frp_s h6
          · skip
            refine frp_bs (wfX3_readWay (tb_sub (a := 8388609) rfl hm) _ _ h2) (fun r6 σ7 h7 => ?_)
            refine frp_w (Fr.wI h7 (tb_of (g := 23) hm rfl)) (fun σ9 h8 => ?_)
            exact frp_s h8
      · skip
        refine frp_w (Fr.wI h1 (tb_of (g := 0) hm rfl)) (fun σ22 h9 => ?_)
        exact frp_s h9
    · skip
      exact (wfX3_readPart_50 hm _ _ h)
theorem wfX3_readPart_0 {m : Nat} {σ0 : S2} (hm : 8388609 ||| m = m) (τ : Nat) (σ : S2) (x2 : Int32) (h : Fr gC m σ0 σ) : FrP gC m σ0 (fX3_readPart_0 τ σ x2) := by
  unfold fX3_readPart_0
  refine frp_bi (fun r23 => ?_)
  refine frp_if ?_ ?_
  · skip
    exact (wfX3_readPart_36 hm _ _ _ _ _ h)
  · skip
    refine frp_if ?_ ?_
    · skip
      exact (wfX3_readPart_36 hm _ _ _ _ _ h)
    · skip
      refine frp_if ?_ ?_
      · skip
        exact (wfX3_readPart_36 hm _ _ _ _ _ h)
      · skip
        exact (wfX3_readPart_36 hm _ _ _ _ _ h)
theorem wfX3_readPart {m : Nat} {σ0 : S2} (hm : 8388609 ||| m = m) (τ : Nat) (σ : S2) (a2 : Int32) (h : Fr gC m σ0 σ) : FrP gC m σ0 (fX3_readPart τ σ a2) := by
  unfold fX3_readPart
  exact (wfX3_readPart_0 hm _ _ _ h)
theorem wfX3_workOut_141 {m : Nat} {σ0 : S2} (hm : 8388609 ||| m = m) (τ : Nat) (σ : S2) (h : Fr gC m σ0 σ) : FrP gC m σ0 (fX3_workOut_141 τ σ) := by
  unfold fX3_workOut_141
  exact frp_s h
theorem wfX3_workOut_135 {m : Nat} {σ0 : S2} (hm : 8388609 ||| m = m) (τ : Nat) (k52 : S2 → Int32 → Int32 → Option (Int32 × S2)) (hk52 : ∀ (y0 : S2) (y1 : Int32) (y2 : Int32), Fr gC m σ0 y0 → FrP gC m σ0 (k52 y0 y1 y2)) (σ : S2) (x3 : Int32) (x4 : Int32) (h : Fr gC m σ0 σ) : FrP gC m σ0 (fX3_workOut_135 τ k52 σ x3 x4) := by
  unfold fX3_workOut_135
  refine frp_nm (fun v1 => ?_)
  exact (hk52 _ _ _ h)
theorem wfX3_workOut_127 {m : Nat} {σ0 : S2} (hm : 8388609 ||| m = m) (τ : Nat) (k52 : S2 → Int32 → Int32 → Option (Int32 × S2)) (hk52 : ∀ (y0 : S2) (y1 : Int32) (y2 : Int32), Fr gC m σ0 y0 → FrP gC m σ0 (k52 y0 y1 y2)) (σ : S2) (x3 : Int32) (x4 : Int32) (h : Fr gC m σ0 σ) : FrP gC m σ0 (fX3_workOut_127 τ k52 σ x3 x4) := by
  unfold fX3_workOut_127
  refine frp_w (Fr.wI h (tb_of (g := 0) hm rfl)) (fun σ2 h1 => ?_)
  exact (wfX3_workOut_135 hm _ _ hk52 _ _ _ h1)
theorem wfX3_workOut_52 {m : Nat} {σ0 : S2} (hm : 8388609 ||| m = m) (τ : Nat) : ∀ (n : Nat) (σ : S2) (x3 : Int32) (x4 : Int32), Fr gC m σ0 σ → FrP gC m σ0 (fX3_workOut_52 τ n σ x3 x4) := by
  intro n
  induction n with
  | zero => intro σ x3 x4 _; exact frp_n
  | succ n ih =>
    intro σ x3 x4 h
    unfold fX3_workOut_52
    refine frp_if ?_ ?_
    · skip
      exact (wfX3_workOut_141 hm _ _ h)
    · skip
      refine frp_if ?_ ?_
      · skip
        refine frp_bs (wfX3_readPart hm _ _ _ h) (fun r3 σ4 h1 => ?_)
        refine frp_nm (fun v6 => ?_)
        refine frp_if ?_ ?_
        · skip
          refine frp_if ?_ ?_
          · skip
            refine frp_bi (fun r7 => ?_)
            refine frp_if ?_ ?_
            · skip
              refine frp_if ?_ ?_
              · skip
                exact (wfX3_workOut_127 hm _ _ ih _ _ _ h1)
              · skip
                refine frp_w (Fr.wI h1 (tb_of (g := 0) hm rfl)) (fun σ9 h2 => ?_)
                exact (wfX3_workOut_135 hm _ _ ih _ _ _ h2)
            · skip
              exact (wfX3_workOut_127 hm _ _ ih _ _ _ h1)
          · skip
            exact (wfX3_workOut_141 hm _ _ h1)
        · skip
          exact (wfX3_workOut_141 hm _ _ h1)
      · skip
        exact (wfX3_workOut_141 hm _ _ h)
theorem wfX3_workOut_0 {m : Nat} {σ0 : S2} (hm : 8388609 ||| m = m) (τ : Nat) (σ : S2) (h : Fr gC m σ0 σ) : FrP gC m σ0 (fX3_workOut_0 τ σ) := by
  unfold fX3_workOut_0
  refine frp_w (Fr.wI h (tb_of (g := 0) hm rfl)) (fun σ10 h1 => ?_)
  refine frp_w (Fr.wI h1 (tb_of (g := 0) hm rfl)) (fun σ11 h2 => ?_)
  refine frp_w (Fr.wI h2 (tb_of (g := 0) hm rfl)) (fun σ12 h3 => ?_)
  refine frp_w (Fr.wI h3 (tb_of (g := 0) hm rfl)) (fun σ13 h4 => ?_)
  refine frp_bs (wfX3_look (tb_sub (a := 8388609) rfl hm) _ _ h4) (fun r14 σ15 h5 => ?_)
  refine frp_w (Fr.wI h5 (tb_of (g := 23) hm rfl)) (fun σ17 h6 => ?_)
  refine frp_w (Fr.wI h6 (tb_of (g := 23) hm rfl)) (fun σ18 h7 => ?_)
  refine frp_w (Fr.wI h7 (tb_of (g := 23) hm rfl)) (fun σ19 h8 => ?_)
  exact (wfX3_workOut_52 hm _ _ _ _ _ h8)
theorem wfX3_workOut {m : Nat} {σ0 : S2} (hm : 8388609 ||| m = m) (τ : Nat) (σ : S2) (h : Fr gC m σ0 σ) : FrP gC m σ0 (fX3_workOut τ σ) := by
  unfold fX3_workOut
  exact (wfX3_workOut_0 hm _ _ h)
theorem wfX4_add_0 {m : Nat} {σ0 : S2} (hm : 4 ||| m = m) (τ : Nat) (c1 : Nat) (n1 : Nat) (σ : S2) (x2 : Int32) (x3 : Int32) (h : Fr gC m σ0 σ) : FrP gC m σ0 (fX4_add_0 τ c1 n1 σ x2 x3) := by
  unfold fX4_add_0
  refine frp_if ?_ ?_
  · skip
    refine frp_ck (fun b1 => ?_)
    refine frp_cp ?_
    refine frp_w (Fr.I h (fun _ => (tr_44 (tb_of (g := 2) hm rfl) (by omega)))) (fun σ2 h2 => ?_)
    refine frp_ck (fun b3 => ?_)
    refine frp_w (Fr.wI h2 (tb_of (g := 2) hm rfl)) (fun σ3 h4 => ?_)
    refine frp_w (Fr.wI h4 (tb_of (g := 2) hm rfl)) (fun σ4 h5 => ?_)
    exact frp_s h5
  · skip
    exact frp_s h
theorem wfX4_add {m : Nat} {σ0 : S2} (hm : 4 ||| m = m) (τ : Nat) (c1 : Nat) (n1 : Nat) (σ : S2) (a2 : Int32) (a3 : Int32) (h : Fr gC m σ0 σ) : FrP gC m σ0 (fX4_add τ c1 n1 σ a2 a3) := by
  unfold fX4_add
  exact (wfX4_add_0 hm _ _ _ _ _ _ h)
theorem wfX4_addFrom_153 {m : Nat} {σ0 : S2} (hm : 5 ||| m = m) (τ : Nat) (c1 : Nat) (n1 : Nat) (k9 : S2 → Int32 → Int32 → Int32 → Int32 → Int32 → Option (Int32 × S2)) (hk9 : ∀ (y0 : S2) (y1 : Int32) (y2 : Int32) (y3 : Int32) (y4 : Int32) (y5 : Int32), Fr gC m σ0 y0 → FrP gC m σ0 (k9 y0 y1 y2 y3 y4 y5)) (σ : S2) (x2 : Int32) (x4 : Int32) (x5 : Int32) (x6 : Int32) (x7 : Int32) (h : Fr gC m σ0 σ) : FrP gC m σ0 (fX4_addFrom_153 τ c1 n1 k9 σ x2 x4 x5 x6 x7) := by
  unfold fX4_addFrom_153
  refine frp_nm (fun v1 => ?_)
  exact (hk9 _ _ _ _ _ _ h)
theorem wfX4_addFrom_74 {m : Nat} {σ0 : S2} (hm : 5 ||| m = m) (τ : Nat) (c1 : Nat) (n1 : Nat) (k9 : S2 → Int32 → Int32 → Int32 → Int32 → Int32 → Option (Int32 × S2)) (hk9 : ∀ (y0 : S2) (y1 : Int32) (y2 : Int32) (y3 : Int32) (y4 : Int32) (y5 : Int32), Fr gC m σ0 y0 → FrP gC m σ0 (k9 y0 y1 y2 y3 y4 y5)) : ∀ (n : Nat) (σ : S2) (x2 : Int32) (x4 : Int32) (x5 : Int32) (x6 : Int32) (x7 : Int32) (x10 : Int32) (x11 : Int32), Fr gC m σ0 σ → FrP gC m σ0 (fX4_addFrom_74 τ c1 n1 k9 n σ x2 x4 x5 x6 x7 x10 x11) := by
  intro n
  induction n with
  | zero => intro σ x2 x4 x5 x6 x7 x10 x11 _; exact frp_n
  | succ n ih =>
    intro σ x2 x4 x5 x6 x7 x10 x11 h
    unfold fX4_addFrom_74
    refine frp_if ?_ ?_
    · skip
      refine frp_nm (fun v2 => ?_)
      refine frp_bi (fun r3 => ?_)
      refine frp_if ?_ ?_
      · skip
        refine frp_bs (wfX4_add (tb_sub (a := 5) rfl hm) _ _ _ _ _ _ h) (fun r5 σ6 h1 => ?_)
        refine frp_if ?_ ?_
        · skip
          exact frp_s h1
        · skip
          refine frp_nm (fun v8 => ?_)
          exact (wfX4_addFrom_153 hm _ _ _ _ hk9 _ _ _ _ _ _ h1)
      · skip
        exact (wfX4_addFrom_153 hm _ _ _ _ hk9 _ _ _ _ _ _ h)
    · skip
      refine frp_ck (fun b2 => ?_)
      refine frp_nm (fun v9 => ?_)
      refine frp_ck (fun b3 => ?_)
      refine frp_w (Fr.wI h (tb_of (g := 0) hm rfl)) (fun σ10 h4 => ?_)
      refine frp_nm (fun v11 => ?_)
      exact (ih _ _ _ _ _ _ _ _ h4)
theorem wfX4_addFrom_9 {m : Nat} {σ0 : S2} (hm : 5 ||| m = m) (τ : Nat) (c1 : Nat) (n1 : Nat) : ∀ (n : Nat) (σ : S2) (x2 : Int32) (x4 : Int32) (x5 : Int32) (x6 : Int32) (x7 : Int32), Fr gC m σ0 σ → FrP gC m σ0 (fX4_addFrom_9 τ c1 n1 n σ x2 x4 x5 x6 x7) := by
  intro n
  induction n with
  | zero => intro σ x2 x4 x5 x6 x7 _; exact frp_n
  | succ n ih =>
    intro σ x2 x4 x5 x6 x7 h
    unfold fX4_addFrom_9
    refine frp_if ?_ ?_
    · skip
      exact frp_s h
    · skip
      refine frp_if ?_ ?_
      · skip
        exact frp_s h
      · skip
        refine frp_if ?_ ?_
        · skip
          refine frp_ck (fun b1 => ?_)
          refine frp_nm (fun v12 => ?_)
          refine frp_if ?_ ?_
          · skip
            exact frp_s h
          · skip
            refine frp_if ?_ ?_
            · skip
              exact frp_s h
            · skip
              refine frp_if ?_ ?_
              · skip
                refine frp_nm (fun v13 => ?_)
                exact (wfX4_addFrom_74 hm _ _ _ _ ih _ _ _ _ _ _ _ _ _ h)
              · skip
                exact frp_s h
        · skip
          exact frp_s h
theorem wfX4_addFrom_0 {m : Nat} {σ0 : S2} (hm : 5 ||| m = m) (τ : Nat) (c1 : Nat) (n1 : Nat) (σ : S2) (x2 : Int32) (x3 : Int32) (x4 : Int32) (h : Fr gC m σ0 σ) : FrP gC m σ0 (fX4_addFrom_0 τ c1 n1 σ x2 x3 x4) := by
  unfold fX4_addFrom_0
  exact (wfX4_addFrom_9 hm _ _ _ _ _ _ _ _ _ _ h)
theorem wfX4_addFrom {m : Nat} {σ0 : S2} (hm : 5 ||| m = m) (τ : Nat) (c1 : Nat) (n1 : Nat) (σ : S2) (a2 : Int32) (a3 : Int32) (a4 : Int32) (h : Fr gC m σ0 σ) : FrP gC m σ0 (fX4_addFrom τ c1 n1 σ a2 a3 a4) := by
  unfold fX4_addFrom
  exact (wfX4_addFrom_0 hm _ _ _ _ _ _ _ h)
theorem wfX8_takeLaw_0 {m : Nat} {σ0 : S2} (hm : 0 ||| m = m) (τ : Nat) (b0 : Nat) (c1 : Nat) (n1 : Nat) (hb0 : m.testBit (gT b0) = true) (σ : S2) (x2 : Int32) (h : Fr gC m σ0 σ) : FrP gC m σ0 (fX8_takeLaw_0 τ b0 c1 n1 σ x2) := by
  unfold fX8_takeLaw_0
  refine frp_w (Fr.wI h (tt_0 hb0 (by decide))) (fun σ1 h1 => ?_)
  refine frp_cp ?_
  refine frp_w (Fr.I h1 (fun _ => (tt_3 hb0))) (fun σ2 h2 => ?_)
  exact frp_s h2
theorem wfX8_takeLaw {m : Nat} {σ0 : S2} (hm : 0 ||| m = m) (τ : Nat) (b0 : Nat) (c1 : Nat) (n1 : Nat) (hb0 : m.testBit (gT b0) = true) (σ : S2) (a2 : Int32) (h : Fr gC m σ0 σ) : FrP gC m σ0 (fX8_takeLaw τ b0 c1 n1 σ a2) := by
  unfold fX8_takeLaw
  exact (wfX8_takeLaw_0 hm _ _ _ _ hb0 _ _ h)
theorem wfX8_takeAll_0 {m : Nat} {σ0 : S2} (hm : 0 ||| m = m) (τ : Nat) (b0 : Nat) (b1 : Nat) (hb0 : m.testBit (gT b0) = true) (σ : S2) (h : Fr gC m σ0 σ) : FrP gC m σ0 (fX8_takeAll_0 τ b0 b1 σ) := by
  unfold fX8_takeAll_0
  refine frp_w (Fr.wI h (tt_0 hb0 (by decide))) (fun σ1 h1 => ?_)
  refine frp_cp ?_
  refine frp_w (Fr.I h1 (fun _ => (tt_1 hb0))) (fun σ2 h2 => ?_)
  refine frp_bs (wfX8_takeLaw hm _ _ _ _ hb0 _ _ h2) (fun r3 σ4 h3 => ?_)
  refine frp_w (Fr.wI h3 (tt_0 hb0 (by decide))) (fun σ6 h4 => ?_)
  refine frp_w (Fr.wI h4 (tt_0 hb0 (by decide))) (fun σ7 h5 => ?_)
  refine frp_w (Fr.wI h5 (tt_0 hb0 (by decide))) (fun σ8 h6 => ?_)
  exact frp_s h6
theorem wfX8_takeAll {m : Nat} {σ0 : S2} (hm : 0 ||| m = m) (τ : Nat) (b0 : Nat) (b1 : Nat) (hb0 : m.testBit (gT b0) = true) (σ : S2) (h : Fr gC m σ0 σ) : FrP gC m σ0 (fX8_takeAll τ b0 b1 σ) := by
  unfold fX8_takeAll
  exact (wfX8_takeAll_0 hm _ _ _ hb0 _ h)
theorem wfJ7_fill_031fb_5 {m : Nat} {σ0 : S2} (hm : 0 ||| m = m) (τ : Nat) (c0 : Nat) (n0 : Nat) (hc0 : ∀ i, m.testBit (gC c0 i) = true) : ∀ (n : Nat) (σ : S2) (x1 : Int32) (x2 : Int32) (x3 : Int32), Fr gC m σ0 σ → FrP gC m σ0 (fJ7_fill_031fb_5 τ c0 n0 n σ x1 x2 x3) := by
  intro n
  induction n with
  | zero => intro σ x1 x2 x3 _; exact frp_n
  | succ n ih =>
    intro σ x1 x2 x3 h
    unfold fJ7_fill_031fb_5
    refine frp_if ?_ ?_
    · skip
      exact frp_s h
    · skip
      refine frp_ck (fun b1 => ?_)
      refine frp_w (Fr.wI h (hc0 _)) (fun σ1 h2 => ?_)
      refine frp_nm (fun v2 => ?_)
      exact (ih _ _ _ _ h2)
theorem wfJ7_fill_031fb_0 {m : Nat} {σ0 : S2} (hm : 0 ||| m = m) (τ : Nat) (c0 : Nat) (n0 : Nat) (hc0 : ∀ i, m.testBit (gC c0 i) = true) (σ : S2) (x1 : Int32) (h : Fr gC m σ0 σ) : FrP gC m σ0 (fJ7_fill_031fb_0 τ c0 n0 σ x1) := by
  unfold fJ7_fill_031fb_0
  refine frp_nm (fun v3 => ?_)
  exact (wfJ7_fill_031fb_5 hm _ _ _ hc0 _ _ _ _ _ h)
theorem wfJ7_fill_031fb {m : Nat} {σ0 : S2} (hm : 0 ||| m = m) (τ : Nat) (c0 : Nat) (n0 : Nat) (hc0 : ∀ i, m.testBit (gC c0 i) = true) (σ : S2) (a1 : Int32) (h : Fr gC m σ0 σ) : FrP gC m σ0 (fJ7_fill_031fb τ c0 n0 σ a1) := by
  unfold fJ7_fill_031fb
  exact (wfJ7_fill_031fb_0 hm _ _ _ hc0 _ _ h)
theorem wfX8_linkPlaces_28 {m : Nat} {σ0 : S2} (hm : 0 ||| m = m) (τ : Nat) (b0 : Nat) (k6 : S2 → Int32 → Int32 → Option (Unit × S2)) (hb0 : m.testBit (gT b0) = true) (hk6 : ∀ (y0 : S2) (y1 : Int32) (y2 : Int32), Fr gC m σ0 y0 → FrP gC m σ0 (k6 y0 y1 y2)) (σ : S2) (x1 : Int32) (x2 : Int32) (x3 : Int32) (h : Fr gC m σ0 σ) : FrP gC m σ0 (fX8_linkPlaces_28 τ b0 k6 σ x1 x2 x3) := by
  unfold fX8_linkPlaces_28
  refine frp_ck (fun b1 => ?_)
  refine frp_w (Fr.wI h (tt_5 hb0)) (fun σ1 h2 => ?_)
  refine frp_nm (fun v2 => ?_)
  exact (hk6 _ _ _ h2)
theorem wfX8_linkPlaces_6 {m : Nat} {σ0 : S2} (hm : 0 ||| m = m) (τ : Nat) (b0 : Nat) (hb0 : m.testBit (gT b0) = true) : ∀ (n : Nat) (σ : S2) (x1 : Int32) (x2 : Int32), Fr gC m σ0 σ → FrP gC m σ0 (fX8_linkPlaces_6 τ b0 n σ x1 x2) := by
  intro n
  induction n with
  | zero => intro σ x1 x2 _; exact frp_n
  | succ n ih =>
    intro σ x1 x2 h
    unfold fX8_linkPlaces_6
    refine frp_if ?_ ?_
    · skip
      exact frp_s h
    · skip
      refine frp_dz ?_
      refine frp_nm (fun v4 => ?_)
      refine frp_ck (fun b1 => ?_)
      refine frp_nm (fun v5 => ?_)
      refine frp_if ?_ ?_
      · skip
        exact (wfX8_linkPlaces_28 hm _ _ _ hb0 ih _ _ _ _ h)
      · skip
        exact (wfX8_linkPlaces_28 hm _ _ _ hb0 ih _ _ _ _ h)
theorem wfX8_linkPlaces_0 {m : Nat} {σ0 : S2} (hm : 0 ||| m = m) (τ : Nat) (b0 : Nat) (hb0 : m.testBit (gT b0) = true) (σ : S2) (h : Fr gC m σ0 σ) : FrP gC m σ0 (fX8_linkPlaces_0 τ b0 σ) := by
  unfold fX8_linkPlaces_0
  exact (wfX8_linkPlaces_6 hm _ _ hb0 _ _ _ _ h)
theorem wfX8_linkPlaces {m : Nat} {σ0 : S2} (hm : 0 ||| m = m) (τ : Nat) (b0 : Nat) (hb0 : m.testBit (gT b0) = true) (σ : S2) (h : Fr gC m σ0 σ) : FrP gC m σ0 (fX8_linkPlaces τ b0 σ) := by
  unfold fX8_linkPlaces
  exact (wfX8_linkPlaces_0 hm _ _ hb0 _ h)
theorem wfX8_seatAll_33 {m : Nat} {σ0 : S2} (hm : 1024 ||| m = m) (τ : Nat) (b0 : Nat) (k25 : S2 → Int32 → Int32 → Option (Unit × S2)) (hb0 : m.testBit (gT b0) = true) (hk25 : ∀ (y0 : S2) (y1 : Int32) (y2 : Int32), Fr gC m σ0 y0 → FrP gC m σ0 (k25 y0 y1 y2)) : ∀ (n : Nat) (σ : S2) (x1 : Int32) (x2 : Int32) (x3 : Int32), Fr gC m σ0 σ → FrP gC m σ0 (fX8_seatAll_33 τ b0 k25 n σ x1 x2 x3) := by
  intro n
  induction n with
  | zero => intro σ x1 x2 x3 _; exact frp_n
  | succ n ih =>
    intro σ x1 x2 x3 h
    unfold fX8_seatAll_33
    refine frp_ck (fun b1 => ?_)
    refine frp_nm (fun v1 => ?_)
    refine frp_if ?_ ?_
    · skip
      refine frp_nm (fun v2 => ?_)
      exact (hk25 _ _ _ h)
    · skip
      refine frp_bi (fun r3 => ?_)
      refine frp_bi (fun r5 => ?_)
      refine frp_ck (fun b2 => ?_)
      refine frp_w (Fr.wI h (tt_4 hb0)) (fun σ7 h3 => ?_)
      refine frp_w (Fr.wI h3 (tt_0 hb0 (by decide))) (fun σ8 h4 => ?_)
      refine frp_nm (fun v9 => ?_)
      exact (ih _ _ _ _ h4)
theorem wfX8_seatAll_25 {m : Nat} {σ0 : S2} (hm : 1024 ||| m = m) (τ : Nat) (b0 : Nat) (hb0 : m.testBit (gT b0) = true) : ∀ (n : Nat) (σ : S2) (x1 : Int32) (x2 : Int32), Fr gC m σ0 σ → FrP gC m σ0 (fX8_seatAll_25 τ b0 n σ x1 x2) := by
  intro n
  induction n with
  | zero => intro σ x1 x2 _; exact frp_n
  | succ n ih =>
    intro σ x1 x2 h
    unfold fX8_seatAll_25
    refine frp_if ?_ ?_
    · skip
      refine frp_bs (wfX8_linkPlaces (tb_sub (a := 1024) rfl hm) _ _ hb0 _ h) (fun r10 σ11 h1 => ?_)
      exact frp_s h1
    · skip
      exact (wfX8_seatAll_33 hm _ _ _ hb0 ih _ _ _ _ _ h)
theorem wfX8_seatAll_0 {m : Nat} {σ0 : S2} (hm : 1024 ||| m = m) (τ : Nat) (b0 : Nat) (hb0 : m.testBit (gT b0) = true) (σ : S2) (x1 : Int32) (h : Fr gC m σ0 σ) : FrP gC m σ0 (fX8_seatAll_0 τ b0 σ x1) := by
  unfold fX8_seatAll_0
  refine frp_w (Fr.wI h (tt_0 hb0 (by decide))) (fun σ13 h1 => ?_)
  refine frp_w (Fr.wI h1 (tt_0 hb0 (by decide))) (fun σ14 h2 => ?_)
  refine frp_w (Fr.wI h2 (to_0 (tb_of (g := 10) hm rfl))) (fun σ15 h3 => ?_)
  refine frp_bs (wfJ7_fill_031fb (tb_sub (a := 1024) rfl hm) _ _ _ (fun _ => (tt_4 hb0)) _ _ h3) (fun r16 σ17 h4 => ?_)
  exact (wfX8_seatAll_25 hm _ _ hb0 _ _ _ _ h4)
theorem wfX8_seatAll {m : Nat} {σ0 : S2} (hm : 1024 ||| m = m) (τ : Nat) (b0 : Nat) (hb0 : m.testBit (gT b0) = true) (σ : S2) (a1 : Int32) (h : Fr gC m σ0 σ) : FrP gC m σ0 (fX8_seatAll τ b0 σ a1) := by
  unfold fX8_seatAll
  exact (wfX8_seatAll_0 hm _ _ hb0 _ _ h)
theorem wfX5_seatSet_123 {m : Nat} {σ0 : S2} (hm : 8389633 ||| m = m) (τ : Nat) (b1 : Nat) : ∀ (n : Nat) (σ : S2) (x3 : Int32) (x4 : Int32), Fr gC m σ0 σ → FrP gC m σ0 (fX5_seatSet_123 τ b1 n σ x3 x4) := by
  intro n
  induction n with
  | zero => intro σ x3 x4 _; exact frp_n
  | succ n ih =>
    intro σ x3 x4 h
    unfold fX5_seatSet_123
    refine frp_if ?_ ?_
    · skip
      exact frp_s h
    · skip
      refine frp_bi (fun r1 => ?_)
      refine frp_bs (wfX1_choose (tb_sub (a := 8389633) rfl hm) _ 0 _ _ h) (fun r3 σ4 h1 => ?_)
      refine frp_ck (fun b2 => ?_)
      refine frp_ck (fun b3 => ?_)
      refine frp_w (Fr.wI h1 (tr_144 (tb_of (g := 0) hm rfl) (by omega))) (fun σ7 h4 => ?_)
      refine frp_nm (fun v8 => ?_)
      exact (ih _ _ _ h4)
theorem wfX5_seatSet_84 {m : Nat} {σ0 : S2} (hm : 8389633 ||| m = m) (τ : Nat) (b1 : Nat) (k8 : S2 → Int32 → Int32 → Option (Int32 × S2)) (hk8 : ∀ (y0 : S2) (y1 : Int32) (y2 : Int32), Fr gC m σ0 y0 → FrP gC m σ0 (k8 y0 y1 y2)) (σ : S2) (x3 : Int32) (x4 : Int32) (h : Fr gC m σ0 σ) : FrP gC m σ0 (fX5_seatSet_84 τ b1 k8 σ x3 x4) := by
  unfold fX5_seatSet_84
  refine frp_nm (fun v9 => ?_)
  exact (hk8 _ _ _ h)
theorem wfX5_seatSet_83 {m : Nat} {σ0 : S2} (hm : 8389633 ||| m = m) (τ : Nat) (b1 : Nat) (k8 : S2 → Int32 → Int32 → Option (Int32 × S2)) (hk8 : ∀ (y0 : S2) (y1 : Int32) (y2 : Int32), Fr gC m σ0 y0 → FrP gC m σ0 (k8 y0 y1 y2)) (σ : S2) (x3 : Int32) (x4 : Int32) (s0 : Int32) (s1 : Int32) (h : Fr gC m σ0 σ) : FrP gC m σ0 (fX5_seatSet_83 τ b1 k8 σ x3 x4 s0 s1) := by
  unfold fX5_seatSet_83
  refine frp_ck (fun b1 => ?_)
  refine frp_w (Fr.wI h (tb_of (g := 23) hm rfl)) (fun σ10 h2 => ?_)
  exact (wfX5_seatSet_84 hm _ _ _ hk8 _ _ _ h2)
theorem wfX5_seatSet_8 {m : Nat} {σ0 : S2} (hm : 8389633 ||| m = m) (τ : Nat) (b1 : Nat) : ∀ (n : Nat) (σ : S2) (x3 : Int32) (x4 : Int32), Fr gC m σ0 σ → FrP gC m σ0 (fX5_seatSet_8 τ b1 n σ x3 x4) := by
  intro n
  induction n with
  | zero => intro σ x3 x4 _; exact frp_n
  | succ n ih =>
    intro σ x3 x4 h
    unfold fX5_seatSet_8
    refine frp_if ?_ ?_
    · skip
      refine frp_if ?_ ?_
      · skip
        exact frp_s h
      · skip
        refine frp_bs (wfX3_workOut (tb_sub (a := 8389633) rfl hm) _ _ h) (fun r11 σ12 h1 => ?_)
        refine frp_bs (wfX8_seatAll (tb_sub (a := 8389633) rfl hm) _ 0 (tb_of (g := 23) hm rfl) _ _ h1) (fun r14 σ15 h2 => ?_)
        exact (wfX5_seatSet_123 hm _ _ _ _ _ _ h2)
    · skip
      refine frp_if ?_ ?_
      · skip
        exact (wfX5_seatSet_84 hm _ _ _ ih _ _ _ h)
      · skip
        refine frp_ck (fun b3 => ?_)
        refine frp_nm (fun v17 => ?_)
        refine frp_w (Fr.wI h (tb_of (g := 23) hm rfl)) (fun σ18 h4 => ?_)
        refine frp_if ?_ ?_
        · skip
          refine frp_bi (fun r19 => ?_)
          exact (wfX5_seatSet_83 hm _ _ _ ih _ _ _ _ _ h4)
        · skip
          exact (wfX5_seatSet_83 hm _ _ _ ih _ _ _ _ _ h4)
theorem wfX5_seatSet_0 {m : Nat} {σ0 : S2} (hm : 8389633 ||| m = m) (τ : Nat) (b1 : Nat) (σ : S2) (x3 : Int32) (h : Fr gC m σ0 σ) : FrP gC m σ0 (fX5_seatSet_0 τ b1 σ x3) := by
  unfold fX5_seatSet_0
  refine frp_bs (wfX8_takeAll (tb_sub (a := 8389633) rfl hm) _ 0 _ (tb_of (g := 23) hm rfl) _ h) (fun r21 σ22 h1 => ?_)
  exact (wfX5_seatSet_8 hm _ _ _ _ _ _ h1)
theorem wfX5_seatSet {m : Nat} {σ0 : S2} (hm : 8389633 ||| m = m) (τ : Nat) (b1 : Nat) (σ : S2) (a3 : Int32) (h : Fr gC m σ0 σ) : FrP gC m σ0 (fX5_seatSet τ b1 σ a3) := by
  unfold fX5_seatSet
  exact (wfX5_seatSet_0 hm _ _ _ _ h)
theorem wfX5_walk_9 {m : Nat} {σ0 : S2} (hm : 131072 ||| m = m) (τ : Nat) : ∀ (n : Nat) (σ : S2) (x1 : Int32) (x2 : Int32) (x3 : Int32), Fr gC m σ0 σ → FrP gC m σ0 (fX5_walk_9 τ n σ x1 x2 x3) := by
  intro n
  induction n with
  | zero => intro σ x1 x2 x3 _; exact frp_n
  | succ n ih =>
    intro σ x1 x2 x3 h
    unfold fX5_walk_9
    refine frp_if ?_ ?_
    · skip
      exact frp_s h
    · skip
      refine frp_if ?_ ?_
      · skip
        exact frp_s h
      · skip
        refine frp_bi (fun r1 => ?_)
        refine frp_ck (fun b1 => ?_)
        refine frp_w (Fr.wI h (tb_of (g := 17) hm rfl)) (fun σ3 h2 => ?_)
        refine frp_w (Fr.wI h2 (tb_of (g := 17) hm rfl)) (fun σ4 h3 => ?_)
        refine frp_nm (fun v5 => ?_)
        refine frp_nm (fun v6 => ?_)
        exact (ih _ _ _ _ h3)
theorem wfX5_walk_0 {m : Nat} {σ0 : S2} (hm : 131072 ||| m = m) (τ : Nat) (σ : S2) (x1 : Int32) (h : Fr gC m σ0 σ) : FrP gC m σ0 (fX5_walk_0 τ σ x1) := by
  unfold fX5_walk_0
  refine frp_w (Fr.wI h (tb_of (g := 17) hm rfl)) (fun σ7 h1 => ?_)
  exact (wfX5_walk_9 hm _ _ _ _ _ _ h1)
theorem wfX5_walk {m : Nat} {σ0 : S2} (hm : 131072 ||| m = m) (τ : Nat) (σ : S2) (a1 : Int32) (h : Fr gC m σ0 σ) : FrP gC m σ0 (fX5_walk τ σ a1) := by
  unfold fX5_walk
  exact (wfX5_walk_0 hm _ _ _ h)
theorem wfX5_leastFrom_62 {m : Nat} {σ0 : S2} (hm : 8586241 ||| m = m) (τ : Nat) (b1 : Nat) (k12 : S2 → Int32 → Int32 → Option (Int32 × S2)) (hk12 : ∀ (y0 : S2) (y1 : Int32) (y2 : Int32), Fr gC m σ0 y0 → FrP gC m σ0 (k12 y0 y1 y2)) (σ : S2) (x3 : Int32) (x4 : Int32) (h : Fr gC m σ0 σ) : FrP gC m σ0 (fX5_leastFrom_62 τ b1 k12 σ x3 x4) := by
  unfold fX5_leastFrom_62
  refine frp_nm (fun v1 => ?_)
  exact (hk12 _ _ _ h)
theorem wfX5_leastFrom_50 {m : Nat} {σ0 : S2} (hm : 8586241 ||| m = m) (τ : Nat) (b1 : Nat) (k12 : S2 → Int32 → Int32 → Option (Int32 × S2)) (hk12 : ∀ (y0 : S2) (y1 : Int32) (y2 : Int32), Fr gC m σ0 y0 → FrP gC m σ0 (k12 y0 y1 y2)) (σ : S2) (x3 : Int32) (x4 : Int32) (s0 : Int32) (s1 : Int32) (h : Fr gC m σ0 σ) : FrP gC m σ0 (fX5_leastFrom_50 τ b1 k12 σ x3 x4 s0 s1) := by
  unfold fX5_leastFrom_50
  refine frp_ck (fun b1 => ?_)
  refine frp_w (Fr.wI h (tb_of (g := 0) hm rfl)) (fun σ2 h2 => ?_)
  exact (wfX5_leastFrom_62 hm _ _ _ hk12 _ _ _ h2)
theorem wfX5_leastFrom_12 {m : Nat} {σ0 : S2} (hm : 8586241 ||| m = m) (τ : Nat) (b1 : Nat) : ∀ (n : Nat) (σ : S2) (x3 : Int32) (x4 : Int32), Fr gC m σ0 σ → FrP gC m σ0 (fX5_leastFrom_12 τ b1 n σ x3 x4) := by
  intro n
  induction n with
  | zero => intro σ x3 x4 _; exact frp_n
  | succ n ih =>
    intro σ x3 x4 h
    unfold fX5_leastFrom_12
    refine frp_if ?_ ?_
    · skip
      refine frp_ck (fun b1 => ?_)
      refine frp_nm (fun v3 => ?_)
      refine frp_if ?_ ?_
      · skip
        exact frp_s h
      · skip
        refine frp_bs (wfX5_walk (tb_sub (a := 8586241) rfl hm) _ _ _ h) (fun r4 σ5 h2 => ?_)
        refine frp_w (Fr.wI h2 (tb_of (g := 16) hm rfl)) (fun σ7 h3 => ?_)
        refine frp_ck (fun b4 => ?_)
        refine frp_nm (fun v8 => ?_)
        exact frp_s h3
    · skip
      refine frp_bs (wfX5_seatSet (tb_sub (a := 8586241) rfl hm) _ _ _ _ h) (fun r9 σ10 h5 => ?_)
      refine frp_if ?_ ?_
      · skip
        refine frp_ck (fun b6 => ?_)
        refine frp_w (Fr.wI h5 (tb_of (g := 0) hm rfl)) (fun σ12 h7 => ?_)
        exact (wfX5_leastFrom_62 hm _ _ _ ih _ _ _ h7)
      · skip
        refine frp_if ?_ ?_
        · skip
          exact (wfX5_leastFrom_50 hm _ _ _ ih _ _ _ _ _ h5)
        · skip
          refine frp_bi (fun r13 => ?_)
          exact (wfX5_leastFrom_50 hm _ _ _ ih _ _ _ _ _ h5)
theorem wfX5_leastFrom_0 {m : Nat} {σ0 : S2} (hm : 8586241 ||| m = m) (τ : Nat) (b1 : Nat) (σ : S2) (h : Fr gC m σ0 σ) : FrP gC m σ0 (fX5_leastFrom_0 τ b1 σ) := by
  unfold fX5_leastFrom_0
  refine frp_nm (fun v15 => ?_)
  exact (wfX5_leastFrom_12 hm _ _ _ _ _ _ h)
theorem wfX5_leastFrom {m : Nat} {σ0 : S2} (hm : 8586241 ||| m = m) (τ : Nat) (b1 : Nat) (σ : S2) (h : Fr gC m σ0 σ) : FrP gC m σ0 (fX5_leastFrom τ b1 σ) := by
  unfold fX5_leastFrom
  exact (wfX5_leastFrom_0 hm _ _ _ h)
theorem wfX6_isKeptFor_106 {m : Nat} {σ0 : S2} (hm : 4096 ||| m = m) (τ : Nat) (k2 : S2 → Int32 → Int32 → Int32 → Option (Int32 × S2)) (hk2 : ∀ (y0 : S2) (y1 : Int32) (y2 : Int32) (y3 : Int32), Fr gC m σ0 y0 → FrP gC m σ0 (k2 y0 y1 y2 y3)) (σ : S2) (x1 : Int32) (x2 : Int32) (x3 : Int32) (h : Fr gC m σ0 σ) : FrP gC m σ0 (fX6_isKeptFor_106 τ k2 σ x1 x2 x3) := by
  unfold fX6_isKeptFor_106
  refine frp_nm (fun v1 => ?_)
  exact (hk2 _ _ _ _ h)
theorem wfX6_isKeptFor_79 {m : Nat} {σ0 : S2} (hm : 4096 ||| m = m) (τ : Nat) (σ : S2) (x1 : Int32) (x2 : Int32) (x4 : Int32) (h : Fr gC m σ0 σ) : FrP gC m σ0 (fX6_isKeptFor_79 τ σ x1 x2 x4) := by
  unfold fX6_isKeptFor_79
  refine frp_ck (fun b1 => ?_)
  refine frp_ck (fun b2 => ?_)
  refine frp_nm (fun v3 => ?_)
  refine frp_ck (fun b3 => ?_)
  refine frp_w (Fr.wI h (tr_96 (tb_of (g := 12) hm rfl) (by omega))) (fun σ4 h4 => ?_)
  refine frp_ck (fun b5 => ?_)
  refine frp_ck (fun b6 => ?_)
  refine frp_w (Fr.wI h4 (tr_108 (tb_of (g := 12) hm rfl) (by omega))) (fun σ6 h7 => ?_)
  exact frp_s h7
theorem wfX6_isKeptFor_2 {m : Nat} {σ0 : S2} (hm : 4096 ||| m = m) (τ : Nat) : ∀ (n : Nat) (σ : S2) (x1 : Int32) (x2 : Int32) (x3 : Int32), Fr gC m σ0 σ → FrP gC m σ0 (fX6_isKeptFor_2 τ n σ x1 x2 x3) := by
  intro n
  induction n with
  | zero => intro σ x1 x2 x3 _; exact frp_n
  | succ n ih =>
    intro σ x1 x2 x3 h
    unfold fX6_isKeptFor_2
    refine frp_if ?_ ?_
    · skip
      exact frp_s h
    · skip
      refine frp_ck (fun b1 => ?_)
      refine frp_nm (fun v7 => ?_)
      refine frp_bi (fun r8 => ?_)
      refine frp_if ?_ ?_
      · skip
        refine frp_bi (fun r10 => ?_)
        refine frp_if ?_ ?_
        · skip
          exact (wfX6_isKeptFor_106 hm _ _ ih _ _ _ _ h)
        · skip
          refine frp_ck (fun b2 => ?_)
          refine frp_ck (fun b3 => ?_)
          refine frp_nm (fun v13 => ?_)
          refine frp_if ?_ ?_
          · skip
            exact (wfX6_isKeptFor_79 hm _ _ _ _ _ h)
          · skip
            refine frp_ck (fun b4 => ?_)
            refine frp_ck (fun b5 => ?_)
            refine frp_nm (fun v15 => ?_)
            refine frp_if ?_ ?_
            · skip
              exact (wfX6_isKeptFor_79 hm _ _ _ _ _ h)
            · skip
              exact (wfX6_isKeptFor_106 hm _ _ ih _ _ _ _ h)
      · skip
        exact (wfX6_isKeptFor_106 hm _ _ ih _ _ _ _ h)
theorem wfX6_isKeptFor_0 {m : Nat} {σ0 : S2} (hm : 4096 ||| m = m) (τ : Nat) (σ : S2) (x1 : Int32) (x2 : Int32) (h : Fr gC m σ0 σ) : FrP gC m σ0 (fX6_isKeptFor_0 τ σ x1 x2) := by
  unfold fX6_isKeptFor_0
  exact (wfX6_isKeptFor_2 hm _ _ _ _ _ _ h)
theorem wfX6_isKeptFor {m : Nat} {σ0 : S2} (hm : 4096 ||| m = m) (τ : Nat) (σ : S2) (a1 : Int32) (a2 : Int32) (h : Fr gC m σ0 σ) : FrP gC m σ0 (fX6_isKeptFor τ σ a1 a2) := by
  unfold fX6_isKeptFor
  exact (wfX6_isKeptFor_0 hm _ _ _ _ h)
theorem wfX6_takesGreater_0 {m : Nat} {σ0 : S2} (hm : 2048 ||| m = m) (τ : Nat) (σ : S2) (x1 : Int32) (x2 : Int32) (x3 : Int32) (h : Fr gC m σ0 σ) : FrP gC m σ0 (fX6_takesGreater_0 τ σ x1 x2 x3) := by
  unfold fX6_takesGreater_0
  refine frp_ck (fun b1 => ?_)
  refine frp_ck (fun b2 => ?_)
  refine frp_nm (fun v2 => ?_)
  refine frp_if ?_ ?_
  · skip
    refine frp_ck (fun b3 => ?_)
    refine frp_ck (fun b4 => ?_)
    refine frp_w (Fr.wI h (tr_84 (tb_of (g := 11) hm rfl) (by omega))) (fun σ4 h5 => ?_)
    exact frp_s h5
  · skip
    exact frp_s h
theorem wfX6_takesGreater {m : Nat} {σ0 : S2} (hm : 2048 ||| m = m) (τ : Nat) (σ : S2) (a1 : Int32) (a2 : Int32) (a3 : Int32) (h : Fr gC m σ0 σ) : FrP gC m σ0 (fX6_takesGreater τ σ a1 a2 a3) := by
  unfold fX6_takesGreater
  exact (wfX6_takesGreater_0 hm _ _ _ _ _ h)
theorem wfX6_receives_0 {m : Nat} {σ0 : S2} (hm : 2048 ||| m = m) (τ : Nat) (σ : S2) (x1 : Int32) (x2 : Int32) (x3 : Int32) (h : Fr gC m σ0 σ) : FrP gC m σ0 (fX6_receives_0 τ σ x1 x2 x3) := by
  unfold fX6_receives_0
  refine frp_bi (fun r1 => ?_)
  refine frp_if ?_ ?_
  · skip
    exact frp_s h
  · skip
    refine frp_bs (wfX6_takesGreater hm _ _ _ _ _ h) (fun r3 σ4 h1 => ?_)
    refine frp_if ?_ ?_
    · skip
      exact frp_s h1
    · skip
      exact frp_s h1
theorem wfX6_receives {m : Nat} {σ0 : S2} (hm : 2048 ||| m = m) (τ : Nat) (σ : S2) (a1 : Int32) (a2 : Int32) (a3 : Int32) (h : Fr gC m σ0 σ) : FrP gC m σ0 (fX6_receives τ σ a1 a2 a3) := by
  unfold fX6_receives
  exact (wfX6_receives_0 hm _ _ _ _ _ h)
theorem wfX6_reaches_0 {m : Nat} {σ0 : S2} (hm : 6144 ||| m = m) (τ : Nat) (σ : S2) (x1 : Int32) (x2 : Int32) (h : Fr gC m σ0 σ) : FrP gC m σ0 (fX6_reaches_0 τ σ x1 x2) := by
  unfold fX6_reaches_0
  refine frp_ck (fun b1 => ?_)
  refine frp_nm (fun v1 => ?_)
  refine frp_if ?_ ?_
  · skip
    refine frp_ck (fun b2 => ?_)
    refine frp_nm (fun v2 => ?_)
    refine frp_if ?_ ?_
    · skip
      refine frp_bs (wfX6_isKeptFor (tb_sub (a := 6144) rfl hm) _ _ _ _ h) (fun r8 σ9 h3 => ?_)
      refine frp_zb ?_
      exact frp_s h3
    · skip
      refine frp_ck (fun b4 => ?_)
      refine frp_nm (fun v3 => ?_)
      refine frp_bs (wfX6_receives (tb_sub (a := 6144) rfl hm) _ _ _ _ _ h) (fun r4 σ5 h5 => ?_)
      refine frp_zb ?_
      exact frp_s h5
  · skip
    exact frp_s h
theorem wfX6_reaches {m : Nat} {σ0 : S2} (hm : 6144 ||| m = m) (τ : Nat) (σ : S2) (a1 : Int32) (a2 : Int32) (h : Fr gC m σ0 σ) : FrP gC m σ0 (fX6_reaches τ σ a1 a2) := by
  unfold fX6_reaches
  exact (wfX6_reaches_0 hm _ _ _ _ h)
theorem wfX6_spread_78 {m : Nat} {σ0 : S2} (hm : 55297 ||| m = m) (τ : Nat) (b1 : Nat) (k45 : S2 → Int32 → Int32 → Int32 → Option (Int32 × S2)) (hk45 : ∀ (y0 : S2) (y1 : Int32) (y2 : Int32) (y3 : Int32), Fr gC m σ0 y0 → FrP gC m σ0 (k45 y0 y1 y2 y3)) (σ : S2) (x2 : Int32) (x3 : Int32) (x4 : Int32) (h : Fr gC m σ0 σ) : FrP gC m σ0 (fX6_spread_78 τ b1 k45 σ x2 x3 x4) := by
  unfold fX6_spread_78
  refine frp_nm (fun v1 => ?_)
  exact (hk45 _ _ _ _ h)
theorem wfX6_spread_45 {m : Nat} {σ0 : S2} (hm : 55297 ||| m = m) (τ : Nat) (b1 : Nat) : ∀ (n : Nat) (σ : S2) (x2 : Int32) (x3 : Int32) (x4 : Int32), Fr gC m σ0 σ → FrP gC m σ0 (fX6_spread_45 τ b1 n σ x2 x3 x4) := by
  intro n
  induction n with
  | zero => intro σ x2 x3 x4 _; exact frp_n
  | succ n ih =>
    intro σ x2 x3 x4 h
    unfold fX6_spread_45
    refine frp_if ?_ ?_
    · skip
      exact frp_s h
    · skip
      refine frp_ck (fun b1 => ?_)
      refine frp_nm (fun v2 => ?_)
      refine frp_bs (wfX6_reaches (tb_sub (a := 55297) rfl hm) _ _ _ _ h) (fun r3 σ4 h2 => ?_)
      refine frp_if ?_ ?_
      · skip
        exact (wfX6_spread_78 hm _ _ _ ih _ _ _ _ h2)
      · skip
        refine frp_nm (fun v6 => ?_)
        exact (wfX6_spread_78 hm _ _ _ ih _ _ _ _ h2)
theorem wfX6_spread_0 {m : Nat} {σ0 : S2} (hm : 55297 ||| m = m) (τ : Nat) (b1 : Nat) (σ : S2) (x2 : Int32) (h : Fr gC m σ0 σ) : FrP gC m σ0 (fX6_spread_0 τ b1 σ x2) := by
  unfold fX6_spread_0
  refine frp_w (Fr.wI h (tb_of (g := 15) hm rfl)) (fun σ7 h1 => ?_)
  refine frp_ck (fun b2 => ?_)
  refine frp_nm (fun v8 => ?_)
  refine frp_ck (fun b3 => ?_)
  refine frp_w (Fr.wI h1 (tb_of (g := 14) hm rfl)) (fun σ9 h4 => ?_)
  refine frp_bi (fun r10 => ?_)
  refine frp_bs (wfX1_choose (tb_sub (a := 55297) rfl hm) _ _ _ _ h4) (fun r12 σ13 h5 => ?_)
  exact (wfX6_spread_45 hm _ _ _ _ _ _ _ h5)
theorem wfX6_spread {m : Nat} {σ0 : S2} (hm : 55297 ||| m = m) (τ : Nat) (b1 : Nat) (σ : S2) (a2 : Int32) (h : Fr gC m σ0 σ) : FrP gC m σ0 (fX6_spread τ b1 σ a2) := by
  unfold fX6_spread
  exact (wfX6_spread_0 hm _ _ _ _ h)
theorem wfX6_handBack_76 {m : Nat} {σ0 : S2} (hm : 6144 ||| m = m) (τ : Nat) (k15 : S2 → Int32 → Int32 → Int32 → Option (Unit × S2)) (hk15 : ∀ (y0 : S2) (y1 : Int32) (y2 : Int32) (y3 : Int32), Fr gC m σ0 y0 → FrP gC m σ0 (k15 y0 y1 y2 y3)) (σ : S2) (x1 : Int32) (x2 : Int32) (x3 : Int32) (h : Fr gC m σ0 σ) : FrP gC m σ0 (fX6_handBack_76 τ k15 σ x1 x2 x3) := by
  unfold fX6_handBack_76
  refine frp_nm (fun v1 => ?_)
  exact (hk15 _ _ _ _ h)
theorem wfX6_handBack_15 {m : Nat} {σ0 : S2} (hm : 6144 ||| m = m) (τ : Nat) (k2 : S2 → Int32 → Int32 → Option (Unit × S2)) (hk2 : ∀ (y0 : S2) (y1 : Int32) (y2 : Int32), Fr gC m σ0 y0 → FrP gC m σ0 (k2 y0 y1 y2)) : ∀ (n : Nat) (σ : S2) (x1 : Int32) (x2 : Int32) (x3 : Int32), Fr gC m σ0 σ → FrP gC m σ0 (fX6_handBack_15 τ k2 n σ x1 x2 x3) := by
  intro n
  induction n with
  | zero => intro σ x1 x2 x3 _; exact frp_n
  | succ n ih =>
    intro σ x1 x2 x3 h
    unfold fX6_handBack_15
    refine frp_if ?_ ?_
    · skip
      refine frp_nm (fun v2 => ?_)
      exact (hk2 _ _ _ h)
    · skip
      refine frp_ck (fun b1 => ?_)
      refine frp_ck (fun b2 => ?_)
      refine frp_nm (fun v4 => ?_)
      refine frp_if ?_ ?_
      · skip
        exact (wfX6_handBack_76 hm _ _ ih _ _ _ _ h)
      · skip
        refine frp_ck (fun b3 => ?_)
        refine frp_ck (fun b4 => ?_)
        refine frp_nm (fun v6 => ?_)
        refine frp_if ?_ ?_
        · skip
          refine frp_ck (fun b5 => ?_)
          refine frp_ck (fun b6 => ?_)
          refine frp_nm (fun v8 => ?_)
          refine frp_bs (wfX6_takesGreater (tb_sub (a := 6144) rfl hm) _ _ _ _ _ h) (fun r9 σ10 h7 => ?_)
          refine frp_ck (fun b8 => ?_)
          refine frp_ck (fun b9 => ?_)
          refine frp_w (Fr.wI h7 (tr_96 (tb_of (g := 12) hm rfl) (by omega))) (fun σ13 h10 => ?_)
          exact (wfX6_handBack_76 hm _ _ ih _ _ _ _ h10)
        · skip
          exact (wfX6_handBack_76 hm _ _ ih _ _ _ _ h)
theorem wfX6_handBack_2 {m : Nat} {σ0 : S2} (hm : 6144 ||| m = m) (τ : Nat) : ∀ (n : Nat) (σ : S2) (x1 : Int32) (x2 : Int32), Fr gC m σ0 σ → FrP gC m σ0 (fX6_handBack_2 τ n σ x1 x2) := by
  intro n
  induction n with
  | zero => intro σ x1 x2 _; exact frp_n
  | succ n ih =>
    intro σ x1 x2 h
    unfold fX6_handBack_2
    refine frp_if ?_ ?_
    · skip
      exact frp_s h
    · skip
      exact (wfX6_handBack_15 hm _ _ ih _ _ _ _ _ h)
theorem wfX6_handBack_0 {m : Nat} {σ0 : S2} (hm : 6144 ||| m = m) (τ : Nat) (σ : S2) (x1 : Int32) (h : Fr gC m σ0 σ) : FrP gC m σ0 (fX6_handBack_0 τ σ x1) := by
  unfold fX6_handBack_0
  exact (wfX6_handBack_2 hm _ _ _ _ _ h)
theorem wfX6_handBack {m : Nat} {σ0 : S2} (hm : 6144 ||| m = m) (τ : Nat) (σ : S2) (a1 : Int32) (h : Fr gC m σ0 σ) : FrP gC m σ0 (fX6_handBack τ σ a1) := by
  unfold fX6_handBack
  exact (wfX6_handBack_0 hm _ _ _ h)
theorem wfJ7_fill_53178_5 {m : Nat} {σ0 : S2} (hm : 0 ||| m = m) (τ : Nat) (c0 : Nat) (n0 : Nat) (hc0 : ∀ i, m.testBit (gC c0 i) = true) : ∀ (n : Nat) (σ : S2) (x1 : Int32) (x2 : Int32) (x3 : Int32), Fr gC m σ0 σ → FrP gC m σ0 (fJ7_fill_53178_5 τ c0 n0 n σ x1 x2 x3) := by
  intro n
  induction n with
  | zero => intro σ x1 x2 x3 _; exact frp_n
  | succ n ih =>
    intro σ x1 x2 x3 h
    unfold fJ7_fill_53178_5
    refine frp_if ?_ ?_
    · skip
      exact frp_s h
    · skip
      refine frp_ck (fun b1 => ?_)
      refine frp_w (Fr.wI h (hc0 _)) (fun σ1 h2 => ?_)
      refine frp_nm (fun v2 => ?_)
      exact (ih _ _ _ _ h2)
theorem wfJ7_fill_53178_0 {m : Nat} {σ0 : S2} (hm : 0 ||| m = m) (τ : Nat) (c0 : Nat) (n0 : Nat) (hc0 : ∀ i, m.testBit (gC c0 i) = true) (σ : S2) (x1 : Int32) (h : Fr gC m σ0 σ) : FrP gC m σ0 (fJ7_fill_53178_0 τ c0 n0 σ x1) := by
  unfold fJ7_fill_53178_0
  refine frp_nm (fun v3 => ?_)
  exact (wfJ7_fill_53178_5 hm _ _ _ hc0 _ _ _ _ _ h)
theorem wfJ7_fill_53178 {m : Nat} {σ0 : S2} (hm : 0 ||| m = m) (τ : Nat) (c0 : Nat) (n0 : Nat) (hc0 : ∀ i, m.testBit (gC c0 i) = true) (σ : S2) (a1 : Int32) (h : Fr gC m σ0 σ) : FrP gC m σ0 (fJ7_fill_53178 τ c0 n0 σ a1) := by
  unfold fJ7_fill_53178
  exact (wfJ7_fill_53178_0 hm _ _ _ hc0 _ _ h)
theorem wfX6_empty_0 {m : Nat} {σ0 : S2} (hm : 6144 ||| m = m) (τ : Nat) (σ : S2) (x1 : Int32) (h : Fr gC m σ0 σ) : FrP gC m σ0 (fX6_empty_0 τ σ x1) := by
  unfold fX6_empty_0
  refine frp_ck (fun b1 => ?_)
  refine frp_bs (wfJ7_fill_53178 (tb_sub (a := 6144) rfl hm) _ _ _ (fun _ => (tr_84 (tb_of (g := 11) hm rfl) (by omega))) _ _ h) (fun r2 σ3 h2 => ?_)
  refine frp_ck (fun b3 => ?_)
  refine frp_bs (wfJ7_fill_53178 (tb_sub (a := 6144) rfl hm) _ _ _ (fun _ => (tr_96 (tb_of (g := 12) hm rfl) (by omega))) _ _ h2) (fun r6 σ7 h4 => ?_)
  exact frp_s h4
theorem wfX6_empty {m : Nat} {σ0 : S2} (hm : 6144 ||| m = m) (τ : Nat) (σ : S2) (a1 : Int32) (h : Fr gC m σ0 σ) : FrP gC m σ0 (fX6_empty τ σ a1) := by
  unfold fX6_empty
  exact (wfX6_empty_0 hm _ _ _ h)
theorem wfX6_greatestFor_75 {m : Nat} {σ0 : S2} (hm : 1 ||| m = m) (τ : Nat) (b1 : Nat) (k25 : S2 → Int32 → Int32 → Int32 → Option (Int32 × S2)) (hk25 : ∀ (y0 : S2) (y1 : Int32) (y2 : Int32) (y3 : Int32), Fr gC m σ0 y0 → FrP gC m σ0 (k25 y0 y1 y2 y3)) (σ : S2) (x2 : Int32) (x3 : Int32) (x4 : Int32) (h : Fr gC m σ0 σ) : FrP gC m σ0 (fX6_greatestFor_75 τ b1 k25 σ x2 x3 x4) := by
  unfold fX6_greatestFor_75
  refine frp_nm (fun v1 => ?_)
  exact (hk25 _ _ _ _ h)
theorem wfX6_greatestFor_25 {m : Nat} {σ0 : S2} (hm : 1 ||| m = m) (τ : Nat) (b1 : Nat) : ∀ (n : Nat) (σ : S2) (x2 : Int32) (x3 : Int32) (x4 : Int32), Fr gC m σ0 σ → FrP gC m σ0 (fX6_greatestFor_25 τ b1 n σ x2 x3 x4) := by
  intro n
  induction n with
  | zero => intro σ x2 x3 x4 _; exact frp_n
  | succ n ih =>
    intro σ x2 x3 x4 h
    unfold fX6_greatestFor_25
    refine frp_if ?_ ?_
    · skip
      exact frp_s h
    · skip
      refine frp_ck (fun b1 => ?_)
      refine frp_nm (fun v2 => ?_)
      refine frp_bi (fun r3 => ?_)
      refine frp_if ?_ ?_
      · skip
        exact (wfX6_greatestFor_75 hm _ _ _ ih _ _ _ _ h)
      · skip
        refine frp_ck (fun b2 => ?_)
        refine frp_ck (fun b3 => ?_)
        refine frp_nm (fun v6 => ?_)
        refine frp_nm (fun v7 => ?_)
        exact (wfX6_greatestFor_75 hm _ _ _ ih _ _ _ _ h)
theorem wfX6_greatestFor_0 {m : Nat} {σ0 : S2} (hm : 1 ||| m = m) (τ : Nat) (b1 : Nat) (σ : S2) (x2 : Int32) (h : Fr gC m σ0 σ) : FrP gC m σ0 (fX6_greatestFor_0 τ b1 σ x2) := by
  unfold fX6_greatestFor_0
  refine frp_bi (fun r8 => ?_)
  refine frp_bs (wfX1_choose hm _ _ _ _ h) (fun r10 σ11 h1 => ?_)
  exact (wfX6_greatestFor_25 hm _ _ _ _ _ _ _ h1)
theorem wfX6_greatestFor {m : Nat} {σ0 : S2} (hm : 1 ||| m = m) (τ : Nat) (b1 : Nat) (σ : S2) (a2 : Int32) (h : Fr gC m σ0 σ) : FrP gC m σ0 (fX6_greatestFor τ b1 σ a2) := by
  unfold fX6_greatestFor
  exact (wfX6_greatestFor_0 hm _ _ _ _ h)
theorem wfX6_movePiece_22 {m : Nat} {σ0 : S2} (hm : 10240 ||| m = m) (τ : Nat) (σ : S2) (x1 : Int32) (x2 : Int32) (h : Fr gC m σ0 σ) : FrP gC m σ0 (fX6_movePiece_22 τ σ x1 x2) := by
  unfold fX6_movePiece_22
  refine frp_ck (fun b1 => ?_)
  refine frp_ck (fun b2 => ?_)
  refine frp_w (Fr.wI h (tr_120 (tb_of (g := 13) hm rfl) (by omega))) (fun σ2 h3 => ?_)
  exact frp_s h3
theorem wfX6_movePiece_54 {m : Nat} {σ0 : S2} (hm : 10240 ||| m = m) (τ : Nat) (σ : S2) (x1 : Int32) (x2 : Int32) (x3 : Int32) (h : Fr gC m σ0 σ) : FrP gC m σ0 (fX6_movePiece_54 τ σ x1 x2 x3) := by
  unfold fX6_movePiece_54
  refine frp_ck (fun b1 => ?_)
  refine frp_ck (fun b2 => ?_)
  refine frp_w (Fr.wI h (tr_132 (tb_of (g := 13) hm rfl) (by omega))) (fun σ4 h3 => ?_)
  refine frp_ck (fun b4 => ?_)
  refine frp_ck (fun b5 => ?_)
  refine frp_nm (fun v6 => ?_)
  refine frp_ck (fun b6 => ?_)
  refine frp_w (Fr.wI h3 (tr_120 (tb_of (g := 13) hm rfl) (by omega))) (fun σ7 h7 => ?_)
  refine frp_ck (fun b8 => ?_)
  refine frp_ck (fun b9 => ?_)
  refine frp_nm (fun v9 => ?_)
  refine frp_if ?_ ?_
  · skip
    refine frp_ck (fun b10 => ?_)
    refine frp_ck (fun b11 => ?_)
    refine frp_nm (fun v11 => ?_)
    refine frp_bs (wfX6_takesGreater (tb_sub (a := 10240) rfl hm) _ _ _ _ _ h7) (fun r12 σ13 h12 => ?_)
    refine frp_ck (fun b13 => ?_)
    refine frp_ck (fun b14 => ?_)
    refine frp_w (Fr.wI h12 (tr_84 (tb_of (g := 11) hm rfl) (by omega))) (fun σ16 h15 => ?_)
    refine frp_ck (fun b16 => ?_)
    refine frp_ck (fun b17 => ?_)
    refine frp_w (Fr.wI h15 (tr_120 (tb_of (g := 13) hm rfl) (by omega))) (fun σ18 h18 => ?_)
    exact frp_s h18
  · skip
    refine frp_ck (fun b19 => ?_)
    refine frp_ck (fun b20 => ?_)
    refine frp_nm (fun v20 => ?_)
    exact frp_s h7
theorem wfX6_movePiece_0 {m : Nat} {σ0 : S2} (hm : 10240 ||| m = m) (τ : Nat) (σ : S2) (x1 : Int32) (x2 : Int32) (x3 : Int32) (h : Fr gC m σ0 σ) : FrP gC m σ0 (fX6_movePiece_0 τ σ x1 x2 x3) := by
  unfold fX6_movePiece_0
  refine frp_bi (fun r21 => ?_)
  refine frp_if ?_ ?_
  · skip
    exact (wfX6_movePiece_22 hm _ _ _ _ h)
  · skip
    refine frp_bi (fun r23 => ?_)
    refine frp_if ?_ ?_
    · skip
      exact (wfX6_movePiece_22 hm _ _ _ _ h)
    · skip
      refine frp_ck (fun b1 => ?_)
      refine frp_ck (fun b2 => ?_)
      refine frp_nm (fun v26 => ?_)
      refine frp_if ?_ ?_
      · skip
        exact (wfX6_movePiece_54 hm _ _ _ _ _ h)
      · skip
        refine frp_ck (fun b3 => ?_)
        refine frp_ck (fun b4 => ?_)
        refine frp_w (Fr.wI h (tr_120 (tb_of (g := 13) hm rfl) (by omega))) (fun σ28 h5 => ?_)
        exact (wfX6_movePiece_54 hm _ _ _ _ _ h5)
theorem wfX6_movePiece {m : Nat} {σ0 : S2} (hm : 10240 ||| m = m) (τ : Nat) (σ : S2) (a1 : Int32) (a2 : Int32) (a3 : Int32) (h : Fr gC m σ0 σ) : FrP gC m σ0 (fX6_movePiece τ σ a1 a2 a3) := by
  unfold fX6_movePiece
  exact (wfX6_movePiece_0 hm _ _ _ _ _ h)
theorem wfX6_mendAll_110 {m : Nat} {σ0 : S2} (hm : 2049 ||| m = m) (τ : Nat) (b1 : Nat) (k4 : S2 → Int32 → Int32 → Option (Int32 × S2)) (hk4 : ∀ (y0 : S2) (y1 : Int32) (y2 : Int32), Fr gC m σ0 y0 → FrP gC m σ0 (k4 y0 y1 y2)) (σ : S2) (x2 : Int32) (x3 : Int32) (h : Fr gC m σ0 σ) : FrP gC m σ0 (fX6_mendAll_110 τ b1 k4 σ x2 x3) := by
  unfold fX6_mendAll_110
  refine frp_nm (fun v1 => ?_)
  exact (hk4 _ _ _ h)
theorem wfX6_mendAll_104 {m : Nat} {σ0 : S2} (hm : 2049 ||| m = m) (τ : Nat) (b1 : Nat) (k53 : S2 → Int32 → Int32 → Int32 → Int32 → Option (Int32 × S2)) (hk53 : ∀ (y0 : S2) (y1 : Int32) (y2 : Int32) (y3 : Int32) (y4 : Int32), Fr gC m σ0 y0 → FrP gC m σ0 (k53 y0 y1 y2 y3 y4)) (σ : S2) (x2 : Int32) (x3 : Int32) (x4 : Int32) (x5 : Int32) (h : Fr gC m σ0 σ) : FrP gC m σ0 (fX6_mendAll_104 τ b1 k53 σ x2 x3 x4 x5) := by
  unfold fX6_mendAll_104
  refine frp_nm (fun v2 => ?_)
  exact (hk53 _ _ _ _ _ h)
theorem wfX6_mendAll_53 {m : Nat} {σ0 : S2} (hm : 2049 ||| m = m) (τ : Nat) (b1 : Nat) (k4 : S2 → Int32 → Int32 → Option (Int32 × S2)) (hk4 : ∀ (y0 : S2) (y1 : Int32) (y2 : Int32), Fr gC m σ0 y0 → FrP gC m σ0 (k4 y0 y1 y2)) : ∀ (n : Nat) (σ : S2) (x2 : Int32) (x3 : Int32) (x4 : Int32) (x5 : Int32), Fr gC m σ0 σ → FrP gC m σ0 (fX6_mendAll_53 τ b1 k4 n σ x2 x3 x4 x5) := by
  intro n
  induction n with
  | zero => intro σ x2 x3 x4 x5 _; exact frp_n
  | succ n ih =>
    intro σ x2 x3 x4 x5 h
    unfold fX6_mendAll_53
    refine frp_if ?_ ?_
    · skip
      exact (wfX6_mendAll_110 hm _ _ _ hk4 _ _ _ h)
    · skip
      refine frp_ck (fun b1 => ?_)
      refine frp_nm (fun v3 => ?_)
      refine frp_bi (fun r4 => ?_)
      refine frp_if ?_ ?_
      · skip
        exact (wfX6_mendAll_104 hm _ _ _ ih _ _ _ _ _ h)
      · skip
        refine frp_bs (wfX6_receives (tb_sub (a := 2049) rfl hm) _ _ _ _ _ h) (fun r6 σ7 h2 => ?_)
        refine frp_if ?_ ?_
        · skip
          exact (wfX6_mendAll_104 hm _ _ _ ih _ _ _ _ _ h2)
        · skip
          refine frp_nm (fun v9 => ?_)
          exact (wfX6_mendAll_104 hm _ _ _ ih _ _ _ _ _ h2)
theorem wfX6_mendAll_4 {m : Nat} {σ0 : S2} (hm : 2049 ||| m = m) (τ : Nat) (b1 : Nat) : ∀ (n : Nat) (σ : S2) (x2 : Int32) (x3 : Int32), Fr gC m σ0 σ → FrP gC m σ0 (fX6_mendAll_4 τ b1 n σ x2 x3) := by
  intro n
  induction n with
  | zero => intro σ x2 x3 _; exact frp_n
  | succ n ih =>
    intro σ x2 x3 h
    unfold fX6_mendAll_4
    refine frp_if ?_ ?_
    · skip
      exact frp_s h
    · skip
      refine frp_bi (fun r10 => ?_)
      refine frp_if ?_ ?_
      · skip
        exact (wfX6_mendAll_110 hm _ _ _ ih _ _ _ h)
      · skip
        refine frp_bi (fun r12 => ?_)
        refine frp_bs (wfX1_choose (tb_sub (a := 2049) rfl hm) _ _ _ _ h) (fun r14 σ15 h1 => ?_)
        exact (wfX6_mendAll_53 hm _ _ _ ih _ _ _ _ _ _ h1)
theorem wfX6_mendAll_0 {m : Nat} {σ0 : S2} (hm : 2049 ||| m = m) (τ : Nat) (b1 : Nat) (σ : S2) (h : Fr gC m σ0 σ) : FrP gC m σ0 (fX6_mendAll_0 τ b1 σ) := by
  unfold fX6_mendAll_0
  exact (wfX6_mendAll_4 hm _ _ _ _ _ _ h)
theorem wfX6_mendAll {m : Nat} {σ0 : S2} (hm : 2049 ||| m = m) (τ : Nat) (b1 : Nat) (σ : S2) (h : Fr gC m σ0 σ) : FrP gC m σ0 (fX6_mendAll τ b1 σ) := by
  unfold fX6_mendAll
  exact (wfX6_mendAll_0 hm _ _ _ h)
theorem wfX6_grow_51 {m : Nat} {σ0 : S2} (hm : 0 ||| m = m) (τ : Nat) (c1 : Nat) (n1 : Nat) (hc1 : ∀ i, m.testBit (gC c1 i) = true) : ∀ (n : Nat) (σ : S2) (x3 : Int32), Fr gC m σ0 σ → FrP gC m σ0 (fX6_grow_51 τ c1 n1 n σ x3) := by
  intro n
  induction n with
  | zero => intro σ x3 _; exact frp_n
  | succ n ih =>
    intro σ x3 h
    unfold fX6_grow_51
    refine frp_if ?_ ?_
    · skip
      exact frp_s h
    · skip
      refine frp_ck (fun b1 => ?_)
      refine frp_nm (fun v1 => ?_)
      refine frp_ck (fun b2 => ?_)
      refine frp_nm (fun v2 => ?_)
      refine frp_ck (fun b3 => ?_)
      refine frp_w (Fr.wI h (hc1 _)) (fun σ3 h4 => ?_)
      refine frp_nm (fun v4 => ?_)
      exact (ih _ _ h4)
theorem wfX6_grow_7 {m : Nat} {σ0 : S2} (hm : 0 ||| m = m) (τ : Nat) (c1 : Nat) (n1 : Nat) (hc1 : ∀ i, m.testBit (gC c1 i) = true) : ∀ (n : Nat) (σ : S2) (x2 : Int32) (x3 : Int32), Fr gC m σ0 σ → FrP gC m σ0 (fX6_grow_7 τ c1 n1 n σ x2 x3) := by
  intro n
  induction n with
  | zero => intro σ x2 x3 _; exact frp_n
  | succ n ih =>
    intro σ x2 x3 h
    unfold fX6_grow_7
    refine frp_if ?_ ?_
    · skip
      exact (wfX6_grow_51 hm _ _ _ hc1 _ _ _ h)
    · skip
      refine frp_dz ?_
      refine frp_ck (fun b1 => ?_)
      refine frp_nm (fun v6 => ?_)
      refine frp_ck (fun b2 => ?_)
      refine frp_ck (fun b3 => ?_)
      refine frp_nm (fun v8 => ?_)
      refine frp_ck (fun b4 => ?_)
      refine frp_w (Fr.wI h (hc1 _)) (fun σ9 h5 => ?_)
      refine frp_nm (fun v10 => ?_)
      exact (ih _ _ _ h5)
theorem wfX6_grow_0 {m : Nat} {σ0 : S2} (hm : 0 ||| m = m) (τ : Nat) (c1 : Nat) (n1 : Nat) (hc1 : ∀ i, m.testBit (gC c1 i) = true) (σ : S2) (x2 : Int32) (h : Fr gC m σ0 σ) : FrP gC m σ0 (fX6_grow_0 τ c1 n1 σ x2) := by
  unfold fX6_grow_0
  refine frp_bs (wfJ7_fill_53178 hm _ _ _ hc1 _ _ h) (fun r11 σ12 h1 => ?_)
  exact (wfX6_grow_7 hm _ _ _ hc1 _ _ _ _ h1)
theorem wfX6_grow {m : Nat} {σ0 : S2} (hm : 0 ||| m = m) (τ : Nat) (c1 : Nat) (n1 : Nat) (hc1 : ∀ i, m.testBit (gC c1 i) = true) (σ : S2) (a2 : Int32) (h : Fr gC m σ0 σ) : FrP gC m σ0 (fX6_grow τ c1 n1 σ a2) := by
  unfold fX6_grow
  exact (wfX6_grow_0 hm _ _ _ hc1 _ _ h)
theorem wfX6_compare_0 {m : Nat} {σ0 : S2} (hm : 1 ||| m = m) (τ : Nat) (σ : S2) (x1 : Int32) (x2 : Int32) (h : Fr gC m σ0 σ) : FrP gC m σ0 (fX6_compare_0 τ σ x1 x2) := by
  unfold fX6_compare_0
  refine frp_bs (wfX6_grow (tb_sub (a := 1) rfl hm) _ _ _ (fun _ => (tb_of (g := 0) hm rfl)) _ _ h) (fun r1 σ2 h1 => ?_)
  refine frp_bs (wfX6_grow (tb_sub (a := 1) rfl hm) _ _ _ (fun _ => (tb_of (g := 0) hm rfl)) _ _ h1) (fun r4 σ5 h2 => ?_)
  exact frp_s h2
theorem wfX6_compare {m : Nat} {σ0 : S2} (hm : 1 ||| m = m) (τ : Nat) (σ : S2) (a1 : Int32) (a2 : Int32) (h : Fr gC m σ0 σ) : FrP gC m σ0 (fX6_compare τ σ a1 a2) := by
  unfold fX6_compare
  exact (wfX6_compare_0 hm _ _ _ _ h)
theorem wfX7_holdKeeper_0 {m : Nat} {σ0 : S2} (hm : 2097152 ||| m = m) (τ : Nat) (σ : S2) (x1 : Int32) (x2 : Int32) (h : Fr gC m σ0 σ) : FrP gC m σ0 (fX7_holdKeeper_0 τ σ x1 x2) := by
  unfold fX7_holdKeeper_0
  refine frp_ck (fun b1 => ?_)
  refine frp_w (Fr.wI h (tb_of (g := 21) hm rfl)) (fun σ1 h2 => ?_)
  refine frp_ck (fun b3 => ?_)
  refine frp_w (Fr.wI h2 (tb_of (g := 21) hm rfl)) (fun σ2 h4 => ?_)
  refine frp_ck (fun b5 => ?_)
  refine frp_w (Fr.wI h4 (tb_of (g := 21) hm rfl)) (fun σ3 h6 => ?_)
  exact frp_s h6
theorem wfX7_holdKeeper {m : Nat} {σ0 : S2} (hm : 2097152 ||| m = m) (τ : Nat) (σ : S2) (a1 : Int32) (a2 : Int32) (h : Fr gC m σ0 σ) : FrP gC m σ0 (fX7_holdKeeper τ σ a1 a2) := by
  unfold fX7_holdKeeper
  exact (wfX7_holdKeeper_0 hm _ _ _ _ h)
theorem wfJ7_fill_d0a16_6 {m : Nat} {σ0 : S2} (hm : 0 ||| m = m) (τ : Nat) (c0 : Nat) (n0 : Nat) (hc0 : ∀ i, m.testBit (gC c0 i) = true) : ∀ (n : Nat) (σ : S2) (x1 : Int64) (x3 : Int32) (x4 : Int32), Fr gC m σ0 σ → FrP gC m σ0 (fJ7_fill_d0a16_6 τ c0 n0 n σ x1 x3 x4) := by
  intro n
  induction n with
  | zero => intro σ x1 x3 x4 _; exact frp_n
  | succ n ih =>
    intro σ x1 x3 x4 h
    unfold fJ7_fill_d0a16_6
    refine frp_if ?_ ?_
    · skip
      exact frp_s h
    · skip
      refine frp_ck (fun b1 => ?_)
      refine frp_w (Fr.wL h (hc0 _)) (fun σ1 h2 => ?_)
      refine frp_nm (fun v2 => ?_)
      exact (ih _ _ _ _ h2)
theorem wfJ7_fill_d0a16_0 {m : Nat} {σ0 : S2} (hm : 0 ||| m = m) (τ : Nat) (c0 : Nat) (n0 : Nat) (hc0 : ∀ i, m.testBit (gC c0 i) = true) (σ : S2) (x1 : Int64) (h : Fr gC m σ0 σ) : FrP gC m σ0 (fJ7_fill_d0a16_0 τ c0 n0 σ x1) := by
  unfold fJ7_fill_d0a16_0
  refine frp_nm (fun v3 => ?_)
  exact (wfJ7_fill_d0a16_6 hm _ _ _ hc0 _ _ _ _ _ h)
theorem wfJ7_fill_d0a16 {m : Nat} {σ0 : S2} (hm : 0 ||| m = m) (τ : Nat) (c0 : Nat) (n0 : Nat) (hc0 : ∀ i, m.testBit (gC c0 i) = true) (σ : S2) (a1 : Int64) (h : Fr gC m σ0 σ) : FrP gC m σ0 (fJ7_fill_d0a16 τ c0 n0 σ a1) := by
  unfold fJ7_fill_d0a16
  exact (wfJ7_fill_d0a16_0 hm _ _ _ hc0 _ _ h)
theorem wfX7_holdRow_0 {m : Nat} {σ0 : S2} (hm : 6291456 ||| m = m) (τ : Nat) (σ : S2) (x1 : Int32) (x2 : Int32) (x3 : Int32) (h : Fr gC m σ0 σ) : FrP gC m σ0 (fX7_holdRow_0 τ σ x1 x2 x3) := by
  unfold fX7_holdRow_0
  refine frp_ck (fun b1 => ?_)
  refine frp_w (Fr.wI h (tb_of (g := 21) hm rfl)) (fun σ1 h2 => ?_)
  refine frp_ck (fun b3 => ?_)
  refine frp_w (Fr.wI h2 (tb_of (g := 21) hm rfl)) (fun σ2 h4 => ?_)
  refine frp_ck (fun b5 => ?_)
  refine frp_w (Fr.wI h4 (tb_of (g := 21) hm rfl)) (fun σ3 h6 => ?_)
  refine frp_ck (fun b7 => ?_)
  refine frp_bs (wfJ7_fill_d0a16 (tb_sub (a := 6291456) rfl hm) _ _ _ (fun _ => (tr_176 (tb_of (g := 22) hm rfl) (by omega))) _ _ h6) (fun r5 σ6 h8 => ?_)
  exact frp_s h8
theorem wfX7_holdRow {m : Nat} {σ0 : S2} (hm : 6291456 ||| m = m) (τ : Nat) (σ : S2) (a1 : Int32) (a2 : Int32) (a3 : Int32) (h : Fr gC m σ0 σ) : FrP gC m σ0 (fX7_holdRow τ σ a1 a2 a3) := by
  unfold fX7_holdRow
  exact (wfX7_holdRow_0 hm _ _ _ _ _ h)
theorem wfX8_takeMembers_36 {m : Nat} {σ0 : S2} (hm : 0 ||| m = m) (τ : Nat) (b0 : Nat) (k7 : S2 → Int32 → Int32 → Option (Unit × S2)) (hb0 : m.testBit (gT b0) = true) (hk7 : ∀ (y0 : S2) (y1 : Int32) (y2 : Int32), Fr gC m σ0 y0 → FrP gC m σ0 (k7 y0 y1 y2)) (σ : S2) (x1 : Int32) (x3 : Int32) (s0 : Int32) (s1 : Int32) (h : Fr gC m σ0 σ) : FrP gC m σ0 (fX8_takeMembers_36 τ b0 k7 σ x1 x3 s0 s1) := by
  unfold fX8_takeMembers_36
  refine frp_ck (fun b1 => ?_)
  refine frp_w (Fr.wI h (tt_1 hb0)) (fun σ1 h2 => ?_)
  refine frp_nm (fun v2 => ?_)
  exact (hk7 _ _ _ h2)
theorem wfX8_takeMembers_7 {m : Nat} {σ0 : S2} (hm : 0 ||| m = m) (τ : Nat) (b0 : Nat) (hb0 : m.testBit (gT b0) = true) : ∀ (n : Nat) (σ : S2) (x1 : Int32) (x3 : Int32), Fr gC m σ0 σ → FrP gC m σ0 (fX8_takeMembers_7 τ b0 n σ x1 x3) := by
  intro n
  induction n with
  | zero => intro σ x1 x3 _; exact frp_n
  | succ n ih =>
    intro σ x1 x3 h
    unfold fX8_takeMembers_7
    refine frp_if ?_ ?_
    · skip
      exact frp_s h
    · skip
      refine frp_if ?_ ?_
      · skip
        refine frp_bi (fun r3 => ?_)
        exact (wfX8_takeMembers_36 hm _ _ _ hb0 ih _ _ _ _ _ h)
      · skip
        exact (wfX8_takeMembers_36 hm _ _ _ hb0 ih _ _ _ _ _ h)
theorem wfX8_takeMembers_0 {m : Nat} {σ0 : S2} (hm : 0 ||| m = m) (τ : Nat) (b0 : Nat) (hb0 : m.testBit (gT b0) = true) (σ : S2) (x1 : Int32) (h : Fr gC m σ0 σ) : FrP gC m σ0 (fX8_takeMembers_0 τ b0 σ x1) := by
  unfold fX8_takeMembers_0
  refine frp_w (Fr.wI h (tt_0 hb0 (by decide))) (fun σ5 h1 => ?_)
  exact (wfX8_takeMembers_7 hm _ _ hb0 _ _ _ _ h1)
theorem wfX8_takeMembers {m : Nat} {σ0 : S2} (hm : 0 ||| m = m) (τ : Nat) (b0 : Nat) (hb0 : m.testBit (gT b0) = true) (σ : S2) (a1 : Int32) (h : Fr gC m σ0 σ) : FrP gC m σ0 (fX8_takeMembers τ b0 σ a1) := by
  unfold fX8_takeMembers
  exact (wfX8_takeMembers_0 hm _ _ hb0 _ _ h)
theorem wfX8_countOdds_51 {m : Nat} {σ0 : S2} (hm : 1024 ||| m = m) (τ : Nat) (b0 : Nat) (k18 : S2 → Int32 → Option (Unit × S2)) (hk18 : ∀ (y0 : S2) (y1 : Int32), Fr gC m σ0 y0 → FrP gC m σ0 (k18 y0 y1)) (σ : S2) (x1 : Int32) (h : Fr gC m σ0 σ) : FrP gC m σ0 (fX8_countOdds_51 τ b0 k18 σ x1) := by
  unfold fX8_countOdds_51
  refine frp_nm (fun v1 => ?_)
  exact (hk18 _ _ h)
theorem wfX8_countOdds_18 {m : Nat} {σ0 : S2} (hm : 1024 ||| m = m) (τ : Nat) (b0 : Nat) : ∀ (n : Nat) (σ : S2) (x1 : Int32), Fr gC m σ0 σ → FrP gC m σ0 (fX8_countOdds_18 τ b0 n σ x1) := by
  intro n
  induction n with
  | zero => intro σ x1 _; exact frp_n
  | succ n ih =>
    intro σ x1 h
    unfold fX8_countOdds_18
    refine frp_if ?_ ?_
    · skip
      refine frp_w (Fr.wI h (to_0 (tb_of (g := 10) hm rfl))) (fun σ2 h1 => ?_)
      exact frp_s h1
    · skip
      refine frp_bi (fun r3 => ?_)
      refine frp_if ?_ ?_
      · skip
        exact (wfX8_countOdds_51 hm _ _ _ ih _ _ h)
      · skip
        refine frp_if ?_ ?_
        · skip
          exact (wfX8_countOdds_51 hm _ _ _ ih _ _ h)
        · skip
          refine frp_ck (fun b2 => ?_)
          refine frp_nm (fun v5 => ?_)
          refine frp_ck (fun b3 => ?_)
          refine frp_w (Fr.wI h (to_2 (tb_of (g := 10) hm rfl))) (fun σ6 h4 => ?_)
          exact (wfX8_countOdds_51 hm _ _ _ ih _ _ h4)
theorem wfX8_countOdds_0 {m : Nat} {σ0 : S2} (hm : 1024 ||| m = m) (τ : Nat) (b0 : Nat) (σ : S2) (h : Fr gC m σ0 σ) : FrP gC m σ0 (fX8_countOdds_0 τ b0 σ) := by
  unfold fX8_countOdds_0
  refine frp_if ?_ ?_
  · skip
    refine frp_bs (wfJ7_fill_53178 (tb_sub (a := 1024) rfl hm) _ _ _ (fun _ => (to_2 (tb_of (g := 10) hm rfl))) _ _ h) (fun r7 σ8 h1 => ?_)
    exact (wfX8_countOdds_18 hm _ _ _ _ _ h1)
  · skip
    exact frp_s h
theorem wfX8_countOdds {m : Nat} {σ0 : S2} (hm : 1024 ||| m = m) (τ : Nat) (b0 : Nat) (σ : S2) (h : Fr gC m σ0 σ) : FrP gC m σ0 (fX8_countOdds τ b0 σ) := by
  unfold fX8_countOdds
  exact (wfX8_countOdds_0 hm _ _ _ h)
theorem wfX8_unevenness_54 {m : Nat} {σ0 : S2} (hm : 1024 ||| m = m) (τ : Nat) (b0 : Nat) (k12 : S2 → Int32 → Int32 → Int32 → Option (Int32 × S2)) (hk12 : ∀ (y0 : S2) (y1 : Int32) (y2 : Int32) (y3 : Int32), Fr gC m σ0 y0 → FrP gC m σ0 (k12 y0 y1 y2 y3)) (σ : S2) (x1 : Int32) (x2 : Int32) (x3 : Int32) (h : Fr gC m σ0 σ) : FrP gC m σ0 (fX8_unevenness_54 τ b0 k12 σ x1 x2 x3) := by
  unfold fX8_unevenness_54
  refine frp_nm (fun v1 => ?_)
  exact (hk12 _ _ _ _ h)
theorem wfX8_unevenness_12 {m : Nat} {σ0 : S2} (hm : 1024 ||| m = m) (τ : Nat) (b0 : Nat) : ∀ (n : Nat) (σ : S2) (x1 : Int32) (x2 : Int32) (x3 : Int32), Fr gC m σ0 σ → FrP gC m σ0 (fX8_unevenness_12 τ b0 n σ x1 x2 x3) := by
  intro n
  induction n with
  | zero => intro σ x1 x2 x3 _; exact frp_n
  | succ n ih =>
    intro σ x1 x2 x3 h
    unfold fX8_unevenness_12
    refine frp_if ?_ ?_
    · skip
      exact frp_s h
    · skip
      refine frp_if ?_ ?_
      · skip
        exact (wfX8_unevenness_54 hm _ _ _ ih _ _ _ _ h)
      · skip
        refine frp_ck (fun b1 => ?_)
        refine frp_nm (fun v2 => ?_)
        refine frp_nm (fun v3 => ?_)
        refine frp_ck (fun b2 => ?_)
        refine frp_nm (fun v4 => ?_)
        refine frp_nm (fun v5 => ?_)
        exact (wfX8_unevenness_54 hm _ _ _ ih _ _ _ _ h)
theorem wfX8_unevenness_0 {m : Nat} {σ0 : S2} (hm : 1024 ||| m = m) (τ : Nat) (b0 : Nat) (σ : S2) (h : Fr gC m σ0 σ) : FrP gC m σ0 (fX8_unevenness_0 τ b0 σ) := by
  unfold fX8_unevenness_0
  refine frp_bs (wfX8_countOdds hm _ _ _ h) (fun r6 σ7 h1 => ?_)
  exact (wfX8_unevenness_12 hm _ _ _ _ _ _ _ h1)
theorem wfX8_unevenness {m : Nat} {σ0 : S2} (hm : 1024 ||| m = m) (τ : Nat) (b0 : Nat) (σ : S2) (h : Fr gC m σ0 σ) : FrP gC m σ0 (fX8_unevenness τ b0 σ) := by
  unfold fX8_unevenness
  exact (wfX8_unevenness_0 hm _ _ _ h)
theorem wfX9_append_2 {m : Nat} {σ0 : S2} (hm : 2 ||| m = m) (τ : Nat) : ∀ (n : Nat) (σ : S2) (x1 : Int32) (x2 : Int32) (x3 : Int32), Fr gC m σ0 σ → FrP gC m σ0 (fX9_append_2 τ n σ x1 x2 x3) := by
  intro n
  induction n with
  | zero => intro σ x1 x2 x3 _; exact frp_n
  | succ n ih =>
    intro σ x1 x2 x3 h
    unfold fX9_append_2
    refine frp_if ?_ ?_
    · skip
      exact frp_s h
    · skip
      refine frp_if ?_ ?_
      · skip
        exact frp_s h
      · skip
        refine frp_ck (fun b1 => ?_)
        refine frp_w (Fr.wI h (tb_of (g := 1) hm rfl)) (fun σ1 h2 => ?_)
        refine frp_w (Fr.wI h2 (tb_of (g := 1) hm rfl)) (fun σ2 h3 => ?_)
        refine frp_nm (fun v3 => ?_)
        exact (ih _ _ _ _ h3)
theorem wfX9_append_0 {m : Nat} {σ0 : S2} (hm : 2 ||| m = m) (τ : Nat) (σ : S2) (x1 : Int32) (x2 : Int32) (h : Fr gC m σ0 σ) : FrP gC m σ0 (fX9_append_0 τ σ x1 x2) := by
  unfold fX9_append_0
  exact (wfX9_append_2 hm _ _ _ _ _ _ h)
theorem wfX9_append {m : Nat} {σ0 : S2} (hm : 2 ||| m = m) (τ : Nat) (σ : S2) (a1 : Int32) (a2 : Int32) (h : Fr gC m σ0 σ) : FrP gC m σ0 (fX9_append τ σ a1 a2) := by
  unfold fX9_append
  exact (wfX9_append_0 hm _ _ _ _ h)
theorem wfX10_greatestShare_79 {m : Nat} {σ0 : S2} (hm : 1 ||| m = m) (τ : Nat) (b1 : Nat) (k12 : S2 → Int32 → Int32 → Option (Int32 × S2)) (hk12 : ∀ (y0 : S2) (y1 : Int32) (y2 : Int32), Fr gC m σ0 y0 → FrP gC m σ0 (k12 y0 y1 y2)) (σ : S2) (x2 : Int32) (x3 : Int32) (h : Fr gC m σ0 σ) : FrP gC m σ0 (fX10_greatestShare_79 τ b1 k12 σ x2 x3) := by
  unfold fX10_greatestShare_79
  refine frp_nm (fun v1 => ?_)
  exact (hk12 _ _ _ h)
theorem wfX10_greatestShare_12 {m : Nat} {σ0 : S2} (hm : 1 ||| m = m) (τ : Nat) (b1 : Nat) : ∀ (n : Nat) (σ : S2) (x2 : Int32) (x3 : Int32), Fr gC m σ0 σ → FrP gC m σ0 (fX10_greatestShare_12 τ b1 n σ x2 x3) := by
  intro n
  induction n with
  | zero => intro σ x2 x3 _; exact frp_n
  | succ n ih =>
    intro σ x2 x3 h
    unfold fX10_greatestShare_12
    refine frp_if ?_ ?_
    · skip
      exact frp_s h
    · skip
      refine frp_bi (fun r2 => ?_)
      refine frp_bi (fun r4 => ?_)
      refine frp_if ?_ ?_
      · skip
        exact (wfX10_greatestShare_79 hm _ _ _ ih _ _ _ h)
      · skip
        refine frp_if ?_ ?_
        · skip
          refine frp_ck (fun b1 => ?_)
          refine frp_nm (fun v6 => ?_)
          refine frp_ck (fun b2 => ?_)
          refine frp_w (Fr.wI h (tb_of (g := 0) hm rfl)) (fun σ7 h3 => ?_)
          refine frp_ck (fun b4 => ?_)
          refine frp_nm (fun v8 => ?_)
          refine frp_nm (fun v9 => ?_)
          exact (wfX10_greatestShare_79 hm _ _ _ ih _ _ _ h3)
        · skip
          exact (wfX10_greatestShare_79 hm _ _ _ ih _ _ _ h)
theorem wfX10_greatestShare_0 {m : Nat} {σ0 : S2} (hm : 1 ||| m = m) (τ : Nat) (b1 : Nat) (σ : S2) (h : Fr gC m σ0 σ) : FrP gC m σ0 (fX10_greatestShare_0 τ b1 σ) := by
  unfold fX10_greatestShare_0
  refine frp_bs (wfJ7_fill_53178 (tb_sub (a := 1) rfl hm) _ _ _ (fun _ => (tb_of (g := 0) hm rfl)) _ _ h) (fun r10 σ11 h1 => ?_)
  exact (wfX10_greatestShare_12 hm _ _ _ _ _ _ h1)
theorem wfX10_greatestShare {m : Nat} {σ0 : S2} (hm : 1 ||| m = m) (τ : Nat) (b1 : Nat) (σ : S2) (h : Fr gC m σ0 σ) : FrP gC m σ0 (fX10_greatestShare τ b1 σ) := by
  unfold fX10_greatestShare
  exact (wfX10_greatestShare_0 hm _ _ _ h)
theorem wfX10_leastHarm_60 {m : Nat} {σ0 : S2} (hm : 9176065 ||| m = m) (τ : Nat) (b1 : Nat) (k10 : S2 → Int32 → Int32 → Option (Int32 × S2)) (hk10 : ∀ (y0 : S2) (y1 : Int32) (y2 : Int32), Fr gC m σ0 y0 → FrP gC m σ0 (k10 y0 y1 y2)) (σ : S2) (x3 : Int32) (x4 : Int32) (h : Fr gC m σ0 σ) : FrP gC m σ0 (fX10_leastHarm_60 τ b1 k10 σ x3 x4) := by
  unfold fX10_leastHarm_60
  refine frp_nm (fun v1 => ?_)
  exact (hk10 _ _ _ h)
theorem wfX10_leastHarm_51 {m : Nat} {σ0 : S2} (hm : 9176065 ||| m = m) (τ : Nat) (b1 : Nat) (k10 : S2 → Int32 → Int32 → Option (Int32 × S2)) (hk10 : ∀ (y0 : S2) (y1 : Int32) (y2 : Int32), Fr gC m σ0 y0 → FrP gC m σ0 (k10 y0 y1 y2)) (σ : S2) (x4 : Int32) (x5 : Int32) (h : Fr gC m σ0 σ) : FrP gC m σ0 (fX10_leastHarm_51 τ b1 k10 σ x4 x5) := by
  unfold fX10_leastHarm_51
  refine frp_w (Fr.wI h (tb_of (g := 19) hm rfl)) (fun σ2 h1 => ?_)
  exact (wfX10_leastHarm_60 hm _ _ _ hk10 _ _ _ h1)
theorem wfX10_leastHarm_10 {m : Nat} {σ0 : S2} (hm : 9176065 ||| m = m) (τ : Nat) (b1 : Nat) : ∀ (n : Nat) (σ : S2) (x3 : Int32) (x4 : Int32), Fr gC m σ0 σ → FrP gC m σ0 (fX10_leastHarm_10 τ b1 n σ x3 x4) := by
  intro n
  induction n with
  | zero => intro σ x3 x4 _; exact frp_n
  | succ n ih =>
    intro σ x3 x4 h
    unfold fX10_leastHarm_10
    refine frp_if ?_ ?_
    · skip
      refine frp_w (Fr.wI h (tb_of (g := 18) hm rfl)) (fun σ3 h1 => ?_)
      exact frp_s h1
    · skip
      refine frp_ck (fun b2 => ?_)
      refine frp_nm (fun v4 => ?_)
      refine frp_bs (wfX8_seatAll (tb_sub (a := 9176065) rfl hm) _ 0 (tb_of (g := 23) hm rfl) _ _ h) (fun r5 σ6 h3 => ?_)
      refine frp_bs (wfX10_greatestShare (tb_sub (a := 9176065) rfl hm) _ 0 _ h3) (fun r8 σ9 h4 => ?_)
      refine frp_if ?_ ?_
      · skip
        exact (wfX10_leastHarm_51 hm _ _ _ ih _ _ _ h4)
      · skip
        refine frp_if ?_ ?_
        · skip
          exact (wfX10_leastHarm_60 hm _ _ _ ih _ _ _ h4)
        · skip
          exact (wfX10_leastHarm_51 hm _ _ _ ih _ _ _ h4)
theorem wfX10_leastHarm_0 {m : Nat} {σ0 : S2} (hm : 9176065 ||| m = m) (τ : Nat) (b1 : Nat) (σ : S2) (h : Fr gC m σ0 σ) : FrP gC m σ0 (fX10_leastHarm_0 τ b1 σ) := by
  unfold fX10_leastHarm_0
  refine frp_bs (wfX8_takeAll (tb_sub (a := 9176065) rfl hm) _ 0 _ (tb_of (g := 23) hm rfl) _ h) (fun r11 σ12 h1 => ?_)
  exact (wfX10_leastHarm_10 hm _ _ _ _ _ _ h1)
theorem wfX10_leastHarm {m : Nat} {σ0 : S2} (hm : 9176065 ||| m = m) (τ : Nat) (b1 : Nat) (σ : S2) (h : Fr gC m σ0 σ) : FrP gC m σ0 (fX10_leastHarm τ b1 σ) := by
  unfold fX10_leastHarm
  exact (wfX10_leastHarm_0 hm _ _ _ h)
theorem wfX11_feed_0 {m : Nat} {σ0 : S2} (hm : 2 ||| m = m) (τ : Nat) (σ : S2) (x1 : Int32) (x2 : Int32) (h : Fr gC m σ0 σ) : FrP gC m σ0 (fX11_feed_0 τ σ x1 x2) := by
  unfold fX11_feed_0
  refine frp_if ?_ ?_
  · skip
    exact frp_s h
  · skip
    refine frp_if ?_ ?_
    · skip
      refine frp_if ?_ ?_
      · skip
        refine frp_bs (wfX9_append hm _ _ _ _ h) (fun r1 σ2 h1 => ?_)
        exact frp_s h1
      · skip
        exact frp_s h
    · skip
      exact frp_s h
theorem wfX11_feed {m : Nat} {σ0 : S2} (hm : 2 ||| m = m) (τ : Nat) (σ : S2) (a1 : Int32) (a2 : Int32) (h : Fr gC m σ0 σ) : FrP gC m σ0 (fX11_feed τ σ a1 a2) := by
  unfold fX11_feed
  exact (wfX11_feed_0 hm _ _ _ _ h)
theorem wfX11_name_91 {m : Nat} {σ0 : S2} (hm : 6 ||| m = m) (τ : Nat) (σ : S2) (x1 : Int32) (h : Fr gC m σ0 σ) : FrP gC m σ0 (fX11_name_91 τ σ x1) := by
  unfold fX11_name_91
  refine frp_w (Fr.wI h (tb_of (g := 1) hm rfl)) (fun σ1 h1 => ?_)
  exact frp_s h1
theorem wfX11_name_0 {m : Nat} {σ0 : S2} (hm : 6 ||| m = m) (τ : Nat) (σ : S2) (h : Fr gC m σ0 σ) : FrP gC m σ0 (fX11_name_0 τ σ) := by
  unfold fX11_name_0
  refine frp_if ?_ ?_
  · skip
    exact frp_s h
  · skip
    refine frp_if ?_ ?_
    · skip
      refine frp_bi (fun r2 => ?_)
      refine frp_if ?_ ?_
      · skip
        refine frp_if ?_ ?_
        · skip
          refine frp_bs (wfX4_add (tb_sub (a := 6) rfl hm) _ _ _ _ _ _ h) (fun r4 σ5 h1 => ?_)
          exact (wfX11_name_91 hm _ _ _ h1)
        · skip
          exact frp_s h
      · skip
        exact (wfX11_name_91 hm _ _ _ h)
    · skip
      exact frp_s h
theorem wfX11_name {m : Nat} {σ0 : S2} (hm : 6 ||| m = m) (τ : Nat) (σ : S2) (h : Fr gC m σ0 σ) : FrP gC m σ0 (fX11_name τ σ) := by
  unfold fX11_name
  exact (wfX11_name_0 hm _ _ h)
theorem wfX11_keeper_0 {m : Nat} {σ0 : S2} (hm : 248 ||| m = m) (τ : Nat) (σ : S2) (x1 : Int32) (x2 : Int32) (h : Fr gC m σ0 σ) : FrP gC m σ0 (fX11_keeper_0 τ σ x1 x2) := by
  unfold fX11_keeper_0
  refine frp_if ?_ ?_
  · skip
    exact frp_s h
  · skip
    refine frp_if ?_ ?_
    · skip
      exact frp_s h
    · skip
      refine frp_bi (fun r1 => ?_)
      refine frp_if ?_ ?_
      · skip
        exact frp_s h
      · skip
        refine frp_if ?_ ?_
        · skip
          refine frp_bs (wfX2_add hm _ _ _ _ h) (fun r3 σ4 h1 => ?_)
          exact frp_s h1
        · skip
          exact frp_s h
theorem wfX11_keeper {m : Nat} {σ0 : S2} (hm : 248 ||| m = m) (τ : Nat) (σ : S2) (a1 : Int32) (a2 : Int32) (h : Fr gC m σ0 σ) : FrP gC m σ0 (fX11_keeper τ σ a1 a2) := by
  unfold fX11_keeper
  exact (wfX11_keeper_0 hm _ _ _ _ h)
theorem wfX11_become_0 {m : Nat} {σ0 : S2} (hm : 6160 ||| m = m) (τ : Nat) (σ : S2) (x1 : Int32) (x2 : Int32) (h : Fr gC m σ0 σ) : FrP gC m σ0 (fX11_become_0 τ σ x1 x2) := by
  unfold fX11_become_0
  refine frp_bi (fun r1 => ?_)
  refine frp_if ?_ ?_
  · skip
    exact frp_s h
  · skip
    refine frp_bi (fun r3 => ?_)
    refine frp_if ?_ ?_
    · skip
      exact frp_s h
    · skip
      refine frp_ck (fun b1 => ?_)
      refine frp_nm (fun v5 => ?_)
      refine frp_ck (fun b2 => ?_)
      refine frp_w (Fr.wI h (tb_of (g := 4) hm rfl)) (fun σ6 h3 => ?_)
      refine frp_if ?_ ?_
      · skip
        refine frp_if ?_ ?_
        · skip
          exact frp_s h3
        · skip
          refine frp_bs (wfX6_handBack (tb_sub (a := 6160) rfl hm) _ _ _ h3) (fun r7 σ8 h4 => ?_)
          exact frp_s h4
      · skip
        exact frp_s h3
theorem wfX11_become {m : Nat} {σ0 : S2} (hm : 6160 ||| m = m) (τ : Nat) (σ : S2) (a1 : Int32) (a2 : Int32) (h : Fr gC m σ0 σ) : FrP gC m σ0 (fX11_become τ σ a1 a2) := by
  unfold fX11_become
  exact (wfX11_become_0 hm _ _ _ _ h)
theorem wfX11_strength_0 {m : Nat} {σ0 : S2} (hm : 64 ||| m = m) (τ : Nat) (σ : S2) (x1 : Int32) (x2 : Int32) (h : Fr gC m σ0 σ) : FrP gC m σ0 (fX11_strength_0 τ σ x1 x2) := by
  unfold fX11_strength_0
  refine frp_bi (fun r1 => ?_)
  refine frp_if ?_ ?_
  · skip
    exact frp_s h
  · skip
    refine frp_bi (fun r3 => ?_)
    refine frp_if ?_ ?_
    · skip
      exact frp_s h
    · skip
      refine frp_ck (fun b1 => ?_)
      refine frp_nm (fun v5 => ?_)
      refine frp_ck (fun b2 => ?_)
      refine frp_w (Fr.wI h (tb_of (g := 6) hm rfl)) (fun σ6 h3 => ?_)
      exact frp_s h3
theorem wfX11_strength {m : Nat} {σ0 : S2} (hm : 64 ||| m = m) (τ : Nat) (σ : S2) (a1 : Int32) (a2 : Int32) (h : Fr gC m σ0 σ) : FrP gC m σ0 (fX11_strength τ σ a1 a2) := by
  unfold fX11_strength
  exact (wfX11_strength_0 hm _ _ _ _ h)
theorem wfX11_ofTable_0 {m : Nat} {σ0 : S2} (hm : 1024 ||| m = m) (τ : Nat) (σ : S2) (x1 : Int32) (x2 : Int32) (h : Fr gC m σ0 σ) : FrP gC m σ0 (fX11_ofTable_0 τ σ x1 x2) := by
  unfold fX11_ofTable_0
  refine frp_bt ?_ (fun b2 => ?_)
  · skip
    exact frp_s h
  · skip
    refine frp_if ?_ ?_
    · skip
      exact frp_s h
    · skip
      refine frp_if ?_ ?_
      · skip
        exact frp_s h
      · skip
        refine frp_if ?_ ?_
        · skip
          exact frp_s h
        · skip
          refine frp_if ?_ ?_
          · skip
            exact frp_s h
          · skip
            refine frp_if ?_ ?_
            · skip
              exact frp_s h
            · skip
              refine frp_if ?_ ?_
              · skip
                refine frp_bs (wfX8_unevenness hm _ _ _ h) (fun r9 σ10 h1 => ?_)
                exact frp_s h1
              · skip
                exact frp_s h
theorem wfX11_ofTable {m : Nat} {σ0 : S2} (hm : 1024 ||| m = m) (τ : Nat) (σ : S2) (a1 : Int32) (a2 : Int32) (h : Fr gC m σ0 σ) : FrP gC m σ0 (fX11_ofTable τ σ a1 a2) := by
  unfold fX11_ofTable
  exact (wfX11_ofTable_0 hm _ _ _ _ h)
theorem wfX11_picked_0 {m : Nat} {σ0 : S2} (hm : 1 ||| m = m) (τ : Nat) (σ : S2) (x1 : Int32) (x2 : Int32) (x3 : Int32) (h : Fr gC m σ0 σ) : FrP gC m σ0 (fX11_picked_0 τ σ x1 x2 x3) := by
  unfold fX11_picked_0
  refine frp_bt ?_ (fun b2 => ?_)
  · skip
    exact frp_s h
  · skip
    refine frp_bi (fun r3 => ?_)
    refine frp_if ?_ ?_
    · skip
      exact frp_s h
    · skip
      refine frp_if ?_ ?_
      · skip
        refine frp_bs (wfX1_pick hm _ _ _ _ h) (fun r5 σ6 h1 => ?_)
        refine frp_if ?_ ?_
        · skip
          exact frp_s h1
        · skip
          refine frp_ck (fun b2 => ?_)
          refine frp_nm (fun v8 => ?_)
          exact frp_s h1
      · skip
        exact frp_s h
theorem wfX11_picked {m : Nat} {σ0 : S2} (hm : 1 ||| m = m) (τ : Nat) (σ : S2) (a1 : Int32) (a2 : Int32) (a3 : Int32) (h : Fr gC m σ0 σ) : FrP gC m σ0 (fX11_picked τ σ a1 a2 a3) := by
  unfold fX11_picked
  exact (wfX11_picked_0 hm _ _ _ _ _ h)
theorem wfX11_keeperOf_0 {m : Nat} {σ0 : S2} (hm : 1 ||| m = m) (τ : Nat) (σ : S2) (x1 : Int32) (x2 : Int32) (x3 : Int32) (h : Fr gC m σ0 σ) : FrP gC m σ0 (fX11_keeperOf_0 τ σ x1 x2 x3) := by
  unfold fX11_keeperOf_0
  refine frp_bt ?_ (fun b2 => ?_)
  · skip
    exact frp_s h
  · skip
    refine frp_bi (fun r3 => ?_)
    refine frp_if ?_ ?_
    · skip
      exact frp_s h
    · skip
      refine frp_if ?_ ?_
      · skip
        refine frp_bi (fun r5 => ?_)
        refine frp_bs (wfX1_choose hm _ _ _ _ h) (fun r7 σ8 h1 => ?_)
        refine frp_if ?_ ?_
        · skip
          exact frp_s h1
        · skip
          refine frp_if ?_ ?_
          · skip
            exact frp_s h1
          · skip
            refine frp_ck (fun b2 => ?_)
            refine frp_nm (fun v10 => ?_)
            exact frp_s h1
      · skip
        exact frp_s h
theorem wfX11_keeperOf {m : Nat} {σ0 : S2} (hm : 1 ||| m = m) (τ : Nat) (σ : S2) (a1 : Int32) (a2 : Int32) (a3 : Int32) (h : Fr gC m σ0 σ) : FrP gC m σ0 (fX11_keeperOf τ σ a1 a2 a3) := by
  unfold fX11_keeperOf
  exact (wfX11_keeperOf_0 hm _ _ _ _ _ h)
theorem wfX11_tooFew_70 {m : Nat} {σ0 : S2} (hm : 1 ||| m = m) (τ : Nat) (k17 : S2 → Nat → Int32 → Int32 → Option (Int32 × S2)) (hk17 : ∀ (y0 : S2) (y1 : Nat) (y2 : Int32) (y3 : Int32), Fr gC m σ0 y0 → FrP gC m σ0 (k17 y0 y1 y2 y3)) (σ : S2) (x2 : Nat) (x3 : Int32) (x4 : Int32) (h : Fr gC m σ0 σ) : FrP gC m σ0 (fX11_tooFew_70 τ k17 σ x2 x3 x4) := by
  unfold fX11_tooFew_70
  refine frp_nm (fun v1 => ?_)
  exact (hk17 _ _ _ _ h)
theorem wfX11_tooFew_17 {m : Nat} {σ0 : S2} (hm : 1 ||| m = m) (τ : Nat) : ∀ (n : Nat) (σ : S2) (x2 : Nat) (x3 : Int32) (x4 : Int32), Fr gC m σ0 σ → FrP gC m σ0 (fX11_tooFew_17 τ n σ x2 x3 x4) := by
  intro n
  induction n with
  | zero => intro σ x2 x3 x4 _; exact frp_n
  | succ n ih =>
    intro σ x2 x3 x4 h
    unfold fX11_tooFew_17
    refine frp_if ?_ ?_
    · skip
      exact frp_s h
    · skip
      refine frp_bi (fun r2 => ?_)
      refine frp_bs (wfX1_choose hm _ _ _ _ h) (fun r4 σ5 h1 => ?_)
      refine frp_bi (fun r7 => ?_)
      refine frp_if ?_ ?_
      · skip
        exact (wfX11_tooFew_70 hm _ _ ih _ _ _ _ h1)
      · skip
        refine frp_nm (fun v9 => ?_)
        exact (wfX11_tooFew_70 hm _ _ ih _ _ _ _ h1)
theorem wfX11_tooFew_0 {m : Nat} {σ0 : S2} (hm : 1 ||| m = m) (τ : Nat) (σ : S2) (x1 : Int32) (h : Fr gC m σ0 σ) : FrP gC m σ0 (fX11_tooFew_0 τ σ x1) := by
  unfold fX11_tooFew_0
  refine frp_bt ?_ (fun b11 => ?_)
  · skip
    exact frp_s h
  · skip
    exact (wfX11_tooFew_17 hm _ _ _ _ _ _ h)
theorem wfX11_tooFew {m : Nat} {σ0 : S2} (hm : 1 ||| m = m) (τ : Nat) (σ : S2) (a1 : Int32) (h : Fr gC m σ0 σ) : FrP gC m σ0 (fX11_tooFew τ σ a1) := by
  unfold fX11_tooFew
  exact (wfX11_tooFew_0 hm _ _ _ h)
theorem wfX11_share_96 {m : Nat} {σ0 : S2} (hm : 1024 ||| m = m) (τ : Nat) (k58 : S2 → Int32 → Nat → Int32 → Int32 → Option (Int32 × S2)) (hk58 : ∀ (y0 : S2) (y1 : Int32) (y2 : Nat) (y3 : Int32) (y4 : Int32), Fr gC m σ0 y0 → FrP gC m σ0 (k58 y0 y1 y2 y3 y4)) (σ : S2) (x2 : Int32) (x4 : Nat) (x5 : Int32) (x6 : Int32) (h : Fr gC m σ0 σ) : FrP gC m σ0 (fX11_share_96 τ k58 σ x2 x4 x5 x6) := by
  unfold fX11_share_96
  refine frp_nm (fun v1 => ?_)
  exact (hk58 _ _ _ _ _ h)
theorem wfX11_share_58 {m : Nat} {σ0 : S2} (hm : 1024 ||| m = m) (τ : Nat) : ∀ (n : Nat) (σ : S2) (x2 : Int32) (x4 : Nat) (x5 : Int32) (x6 : Int32), Fr gC m σ0 σ → FrP gC m σ0 (fX11_share_58 τ n σ x2 x4 x5 x6) := by
  intro n
  induction n with
  | zero => intro σ x2 x4 x5 x6 _; exact frp_n
  | succ n ih =>
    intro σ x2 x4 x5 x6 h
    unfold fX11_share_58
    refine frp_if ?_ ?_
    · skip
      exact frp_s h
    · skip
      refine frp_bi (fun r2 => ?_)
      refine frp_bi (fun r4 => ?_)
      refine frp_if ?_ ?_
      · skip
        refine frp_nm (fun v6 => ?_)
        exact (wfX11_share_96 hm _ _ ih _ _ _ _ _ h)
      · skip
        exact (wfX11_share_96 hm _ _ ih _ _ _ _ _ h)
theorem wfX11_share_0 {m : Nat} {σ0 : S2} (hm : 1024 ||| m = m) (τ : Nat) (σ : S2) (x1 : Int32) (x2 : Int32) (x3 : Int32) (h : Fr gC m σ0 σ) : FrP gC m σ0 (fX11_share_0 τ σ x1 x2 x3) := by
  unfold fX11_share_0
  refine frp_bt ?_ (fun b8 => ?_)
  · skip
    exact frp_s h
  · skip
    refine frp_bi (fun r9 => ?_)
    refine frp_if ?_ ?_
    · skip
      exact frp_s h
    · skip
      refine frp_if ?_ ?_
      · skip
        exact frp_s h
      · skip
        refine frp_if ?_ ?_
        · skip
          refine frp_if ?_ ?_
          · skip
            refine frp_bs (wfX8_countOdds hm _ _ _ h) (fun r11 σ12 h1 => ?_)
            refine frp_ck (fun b2 => ?_)
            refine frp_nm (fun v14 => ?_)
            exact frp_s h1
          · skip
            exact (wfX11_share_58 hm _ _ _ _ _ _ _ h)
        · skip
          exact frp_s h
theorem wfX11_share {m : Nat} {σ0 : S2} (hm : 1024 ||| m = m) (τ : Nat) (σ : S2) (a1 : Int32) (a2 : Int32) (a3 : Int32) (h : Fr gC m σ0 σ) : FrP gC m σ0 (fX11_share τ σ a1 a2 a3) := by
  unfold fX11_share
  exact (wfX11_share_0 hm _ _ _ _ _ h)
theorem wfX11_moves_157 {m : Nat} {σ0 : S2} (hm : 1 ||| m = m) (τ : Nat) (k50 : S2 → Int32 → Nat → Nat → Int32 → Int32 → Int32 → Option (Int32 × S2)) (hk50 : ∀ (y0 : S2) (y1 : Int32) (y2 : Nat) (y3 : Nat) (y4 : Int32) (y5 : Int32) (y6 : Int32), Fr gC m σ0 y0 → FrP gC m σ0 (k50 y0 y1 y2 y3 y4 y5 y6)) (σ : S2) (x3 : Int32) (x4 : Nat) (x5 : Nat) (x6 : Int32) (x7 : Int32) (x8 : Int32) (x10 : Int32) (h : Fr gC m σ0 σ) : FrP gC m σ0 (fX11_moves_157 τ k50 σ x3 x4 x5 x6 x7 x8 x10) := by
  unfold fX11_moves_157
  refine frp_bi (fun r1 => ?_)
  refine frp_nm (fun v3 => ?_)
  refine frp_nm (fun v4 => ?_)
  exact (hk50 _ _ _ _ _ _ _ h)
theorem wfX11_moves_155 {m : Nat} {σ0 : S2} (hm : 1 ||| m = m) (τ : Nat) (k50 : S2 → Int32 → Nat → Nat → Int32 → Int32 → Int32 → Option (Int32 × S2)) (hk50 : ∀ (y0 : S2) (y1 : Int32) (y2 : Nat) (y3 : Nat) (y4 : Int32) (y5 : Int32) (y6 : Int32), Fr gC m σ0 y0 → FrP gC m σ0 (k50 y0 y1 y2 y3 y4 y5 y6)) (σ : S2) (x3 : Int32) (x4 : Nat) (x5 : Nat) (x6 : Int32) (x7 : Int32) (x8 : Int32) (s0 : Int32) (h : Fr gC m σ0 σ) : FrP gC m σ0 (fX11_moves_155 τ k50 σ x3 x4 x5 x6 x7 x8 s0) := by
  unfold fX11_moves_155
  exact (wfX11_moves_157 hm _ _ hk50 _ _ _ _ _ _ _ _ h)
theorem wfX11_moves_50 {m : Nat} {σ0 : S2} (hm : 1 ||| m = m) (τ : Nat) : ∀ (n : Nat) (σ : S2) (x3 : Int32) (x4 : Nat) (x5 : Nat) (x6 : Int32) (x7 : Int32) (x8 : Int32), Fr gC m σ0 σ → FrP gC m σ0 (fX11_moves_50 τ n σ x3 x4 x5 x6 x7 x8) := by
  intro n
  induction n with
  | zero => intro σ x3 x4 x5 x6 x7 x8 _; exact frp_n
  | succ n ih =>
    intro σ x3 x4 x5 x6 x7 x8 h
    unfold fX11_moves_50
    refine frp_if ?_ ?_
    · skip
      exact frp_s h
    · skip
      refine frp_bi (fun r5 => ?_)
      refine frp_bs (wfX1_choose hm _ _ _ _ h) (fun r7 σ8 h1 => ?_)
      refine frp_nm (fun v10 => ?_)
      refine frp_bi (fun r11 => ?_)
      refine frp_bs (wfX1_choose hm _ _ _ _ h1) (fun r13 σ14 h2 => ?_)
      refine frp_nm (fun v16 => ?_)
      refine frp_if ?_ ?_
      · skip
        refine frp_if ?_ ?_
        · skip
          exact (wfX11_moves_155 hm _ _ ih _ _ _ _ _ _ _ _ h2)
        · skip
          exact (wfX11_moves_155 hm _ _ ih _ _ _ _ _ _ _ _ h2)
      · skip
        exact (wfX11_moves_157 hm _ _ ih _ _ _ _ _ _ _ _ h2)
theorem wfX11_moves_0 {m : Nat} {σ0 : S2} (hm : 1 ||| m = m) (τ : Nat) (σ : S2) (x1 : Int32) (x2 : Int32) (x3 : Int32) (h : Fr gC m σ0 σ) : FrP gC m σ0 (fX11_moves_0 τ σ x1 x2 x3) := by
  unfold fX11_moves_0
  refine frp_bt ?_ (fun b18 => ?_)
  · skip
    refine frp_bt ?_ (fun b20 => ?_)
    · skip
      exact frp_s h
    · skip
      exact frp_s h
  · skip
    refine frp_bt ?_ (fun b22 => ?_)
    · skip
      exact frp_s h
    · skip
      refine frp_if ?_ ?_
      · skip
        exact frp_s h
      · skip
        refine frp_if ?_ ?_
        · skip
          refine frp_bi (fun r23 => ?_)
          exact (wfX11_moves_50 hm _ _ _ _ _ _ _ _ _ h)
        · skip
          exact frp_s h
theorem wfX11_moves {m : Nat} {σ0 : S2} (hm : 1 ||| m = m) (τ : Nat) (σ : S2) (a1 : Int32) (a2 : Int32) (a3 : Int32) (h : Fr gC m σ0 σ) : FrP gC m σ0 (fX11_moves τ σ a1 a2 a3) := by
  unfold fX11_moves
  exact (wfX11_moves_0 hm _ _ _ _ _ h)
theorem wfX11_knows_0 {m : Nat} {σ0 : S2} (hm : 128 ||| m = m) (τ : Nat) (σ : S2) (x1 : Int32) (x2 : Int32) (h : Fr gC m σ0 σ) : FrP gC m σ0 (fX11_knows_0 τ σ x1 x2) := by
  unfold fX11_knows_0
  refine frp_bi (fun r1 => ?_)
  refine frp_if ?_ ?_
  · skip
    exact frp_s h
  · skip
    refine frp_if ?_ ?_
    · skip
      exact frp_s h
    · skip
      refine frp_if ?_ ?_
      · skip
        refine frp_ck (fun b1 => ?_)
        refine frp_nm (fun v3 => ?_)
        refine frp_ck (fun b2 => ?_)
        refine frp_w (Fr.wI h (tb_of (g := 7) hm rfl)) (fun σ4 h3 => ?_)
        exact frp_s h3
      · skip
        exact frp_s h
theorem wfX11_knows {m : Nat} {σ0 : S2} (hm : 128 ||| m = m) (τ : Nat) (σ : S2) (a1 : Int32) (a2 : Int32) (h : Fr gC m σ0 σ) : FrP gC m σ0 (fX11_knows τ σ a1 a2) := by
  unfold fX11_knows
  exact (wfX11_knows_0 hm _ _ _ _ h)
theorem wfX11_write_0 {m : Nat} {σ0 : S2} (hm : 55297 ||| m = m) (τ : Nat) (σ : S2) (x1 : Int32) (x2 : Int32) (h : Fr gC m σ0 σ) : FrP gC m σ0 (fX11_write_0 τ σ x1 x2) := by
  unfold fX11_write_0
  refine frp_bi (fun r1 => ?_)
  refine frp_if ?_ ?_
  · skip
    exact frp_s h
  · skip
    refine frp_bi (fun r3 => ?_)
    refine frp_if ?_ ?_
    · skip
      exact frp_s h
    · skip
      refine frp_ck (fun b1 => ?_)
      refine frp_nm (fun v5 => ?_)
      refine frp_bt ?_ (fun b7 => ?_)
      · skip
        exact frp_s h
      · skip
        refine frp_bi (fun r8 => ?_)
        refine frp_if ?_ ?_
        · skip
          exact frp_s h
        · skip
          refine frp_bs (wfX6_spread hm _ _ _ _ h) (fun r10 σ11 h2 => ?_)
          exact frp_s h2
theorem wfX11_write {m : Nat} {σ0 : S2} (hm : 55297 ||| m = m) (τ : Nat) (σ : S2) (a1 : Int32) (a2 : Int32) (h : Fr gC m σ0 σ) : FrP gC m σ0 (fX11_write τ σ a1 a2) := by
  unfold fX11_write
  exact (wfX11_write_0 hm _ _ _ _ h)
theorem wfX11_read_0 {m : Nat} {σ0 : S2} (hm : 1 ||| m = m) (τ : Nat) (σ : S2) (x1 : Int32) (x2 : Int32) (h : Fr gC m σ0 σ) : FrP gC m σ0 (fX11_read_0 τ σ x1 x2) := by
  unfold fX11_read_0
  refine frp_bi (fun r1 => ?_)
  refine frp_if ?_ ?_
  · skip
    exact frp_s h
  · skip
    refine frp_bi (fun r3 => ?_)
    refine frp_if ?_ ?_
    · skip
      exact frp_s h
    · skip
      refine frp_ck (fun b1 => ?_)
      refine frp_nm (fun v5 => ?_)
      refine frp_bt ?_ (fun b7 => ?_)
      · skip
        exact frp_s h
      · skip
        refine frp_bi (fun r8 => ?_)
        refine frp_if ?_ ?_
        · skip
          exact frp_s h
        · skip
          refine frp_bs (wfX6_greatestFor hm _ _ _ _ h) (fun r10 σ11 h2 => ?_)
          exact frp_s h2
theorem wfX11_read {m : Nat} {σ0 : S2} (hm : 1 ||| m = m) (τ : Nat) (σ : S2) (a1 : Int32) (a2 : Int32) (h : Fr gC m σ0 σ) : FrP gC m σ0 (fX11_read τ σ a1 a2) := by
  unfold fX11_read
  exact (wfX11_read_0 hm _ _ _ _ h)
theorem wfX11_fall_58 {m : Nat} {σ0 : S2} (hm : 6400 ||| m = m) (τ : Nat) (σ : S2) (x1 : Int32) (x2 : Int32) (x3 : Int32) (s0 : Int32) (s1 : Int32) (h : Fr gC m σ0 σ) : FrP gC m σ0 (fX11_fall_58 τ σ x1 x2 x3 s0 s1) := by
  unfold fX11_fall_58
  refine frp_ck (fun b1 => ?_)
  refine frp_w (Fr.wI h (tb_of (g := 8) hm rfl)) (fun σ1 h2 => ?_)
  refine frp_if ?_ ?_
  · skip
    refine frp_bs (wfX6_empty (tb_sub (a := 6400) rfl hm) _ _ _ h2) (fun r2 σ3 h3 => ?_)
    exact frp_s h3
  · skip
    exact frp_s h2
theorem wfX11_fall_39 {m : Nat} {σ0 : S2} (hm : 6400 ||| m = m) (τ : Nat) (σ : S2) (x1 : Int32) (x2 : Int32) (s0 : Int32) (h : Fr gC m σ0 σ) : FrP gC m σ0 (fX11_fall_39 τ σ x1 x2 s0) := by
  unfold fX11_fall_39
  refine frp_if ?_ ?_
  · skip
    exact (wfX11_fall_58 hm _ _ _ _ _ _ _ h)
  · skip
    exact (wfX11_fall_58 hm _ _ _ _ _ _ _ h)
theorem wfX11_fall_0 {m : Nat} {σ0 : S2} (hm : 6400 ||| m = m) (τ : Nat) (σ : S2) (x1 : Int32) (x2 : Int32) (h : Fr gC m σ0 σ) : FrP gC m σ0 (fX11_fall_0 τ σ x1 x2) := by
  unfold fX11_fall_0
  refine frp_bi (fun r5 => ?_)
  refine frp_if ?_ ?_
  · skip
    exact frp_s h
  · skip
    refine frp_if ?_ ?_
    · skip
      exact frp_s h
    · skip
      refine frp_if ?_ ?_
      · skip
        refine frp_ck (fun b1 => ?_)
        refine frp_nm (fun v7 => ?_)
        refine frp_if ?_ ?_
        · skip
          exact (wfX11_fall_39 hm _ _ _ _ _ h)
        · skip
          exact (wfX11_fall_39 hm _ _ _ _ _ h)
      · skip
        exact frp_s h
theorem wfX11_fall {m : Nat} {σ0 : S2} (hm : 6400 ||| m = m) (τ : Nat) (σ : S2) (a1 : Int32) (a2 : Int32) (h : Fr gC m σ0 σ) : FrP gC m σ0 (fX11_fall τ σ a1 a2) := by
  unfold fX11_fall
  exact (wfX11_fall_0 hm _ _ _ _ h)
theorem wfX11_half_0 {m : Nat} {σ0 : S2} (hm : 10240 ||| m = m) (τ : Nat) (σ : S2) (x1 : Int32) (x2 : Int32) (x3 : Int32) (h : Fr gC m σ0 σ) : FrP gC m σ0 (fX11_half_0 τ σ x1 x2 x3) := by
  unfold fX11_half_0
  refine frp_bi (fun r1 => ?_)
  refine frp_if ?_ ?_
  · skip
    exact frp_s h
  · skip
    refine frp_bi (fun r3 => ?_)
    refine frp_if ?_ ?_
    · skip
      exact frp_s h
    · skip
      refine frp_bi (fun r5 => ?_)
      refine frp_if ?_ ?_
      · skip
        exact frp_s h
      · skip
        refine frp_if ?_ ?_
        · skip
          exact frp_s h
        · skip
          refine frp_ck (fun b1 => ?_)
          refine frp_ck (fun b2 => ?_)
          refine frp_nm (fun v8 => ?_)
          refine frp_if ?_ ?_
          · skip
            exact frp_s h
          · skip
            refine frp_bs (wfX6_movePiece hm _ _ _ _ _ h) (fun r9 σ10 h3 => ?_)
            exact frp_s h3
theorem wfX11_half {m : Nat} {σ0 : S2} (hm : 10240 ||| m = m) (τ : Nat) (σ : S2) (a1 : Int32) (a2 : Int32) (a3 : Int32) (h : Fr gC m σ0 σ) : FrP gC m σ0 (fX11_half τ σ a1 a2 a3) := by
  unfold fX11_half
  exact (wfX11_half_0 hm _ _ _ _ _ h)
theorem wfX11_mend_0 {m : Nat} {σ0 : S2} (hm : 2049 ||| m = m) (τ : Nat) (σ : S2) (x1 : Int32) (h : Fr gC m σ0 σ) : FrP gC m σ0 (fX11_mend_0 τ σ x1) := by
  unfold fX11_mend_0
  refine frp_bt ?_ (fun b2 => ?_)
  · skip
    exact frp_s h
  · skip
    refine frp_bs (wfX6_mendAll hm _ _ _ h) (fun r3 σ4 h1 => ?_)
    exact frp_s h1
theorem wfX11_mend {m : Nat} {σ0 : S2} (hm : 2049 ||| m = m) (τ : Nat) (σ : S2) (a1 : Int32) (h : Fr gC m σ0 σ) : FrP gC m σ0 (fX11_mend τ σ a1) := by
  unfold fX11_mend
  exact (wfX11_mend_0 hm _ _ _ h)
theorem wfX11_trees_0 {m : Nat} {σ0 : S2} (hm : 1 ||| m = m) (τ : Nat) (σ : S2) (x1 : Int32) (x2 : Int32) (x3 : Int32) (h : Fr gC m σ0 σ) : FrP gC m σ0 (fX11_trees_0 τ σ x1 x2 x3) := by
  unfold fX11_trees_0
  refine frp_bi (fun r1 => ?_)
  refine frp_if ?_ ?_
  · skip
    exact frp_s h
  · skip
    refine frp_bi (fun r3 => ?_)
    refine frp_if ?_ ?_
    · skip
      exact frp_s h
    · skip
      refine frp_if ?_ ?_
      · skip
        exact frp_s h
      · skip
        refine frp_if ?_ ?_
        · skip
          exact frp_s h
        · skip
          refine frp_if ?_ ?_
          · skip
            refine frp_bs (wfX6_compare hm _ _ _ _ h) (fun r5 σ6 h1 => ?_)
            refine frp_if ?_ ?_
            · skip
              refine frp_bi (fun r10 => ?_)
              exact frp_s h1
            · skip
              refine frp_bi (fun r8 => ?_)
              exact frp_s h1
          · skip
            exact frp_s h
theorem wfX11_trees {m : Nat} {σ0 : S2} (hm : 1 ||| m = m) (τ : Nat) (σ : S2) (a1 : Int32) (a2 : Int32) (a3 : Int32) (h : Fr gC m σ0 σ) : FrP gC m σ0 (fX11_trees τ σ a1 a2 a3) := by
  unfold fX11_trees
  exact (wfX11_trees_0 hm _ _ _ _ _ h)
theorem wfX11_comes_0 {m : Nat} {σ0 : S2} (hm : 65536 ||| m = m) (τ : Nat) (σ : S2) (x1 : Int32) (h : Fr gC m σ0 σ) : FrP gC m σ0 (fX11_comes_0 τ σ x1) := by
  unfold fX11_comes_0
  refine frp_bi (fun r1 => ?_)
  refine frp_if ?_ ?_
  · skip
    exact frp_s h
  · skip
    refine frp_bi (fun r3 => ?_)
    refine frp_if ?_ ?_
    · skip
      refine frp_if ?_ ?_
      · skip
        refine frp_ck (fun b1 => ?_)
        refine frp_w (Fr.wI h (tb_of (g := 16) hm rfl)) (fun σ5 h2 => ?_)
        refine frp_w (Fr.wI h2 (tb_of (g := 16) hm rfl)) (fun σ6 h3 => ?_)
        exact frp_s h3
      · skip
        exact frp_s h
    · skip
      exact frp_s h
theorem wfX11_comes {m : Nat} {σ0 : S2} (hm : 65536 ||| m = m) (τ : Nat) (σ : S2) (a1 : Int32) (h : Fr gC m σ0 σ) : FrP gC m σ0 (fX11_comes τ σ a1) := by
  unfold fX11_comes
  exact (wfX11_comes_0 hm _ _ _ h)
theorem wfX11_order_0 {m : Nat} {σ0 : S2} (hm : 8586241 ||| m = m) (τ : Nat) (σ : S2) (x1 : Int32) (h : Fr gC m σ0 σ) : FrP gC m σ0 (fX11_order_0 τ σ x1) := by
  unfold fX11_order_0
  refine frp_bt ?_ (fun b2 => ?_)
  · skip
    exact frp_s h
  · skip
    refine frp_if ?_ ?_
    · skip
      exact frp_s h
    · skip
      refine frp_bs (wfX5_leastFrom hm _ _ _ h) (fun r3 σ4 h1 => ?_)
      refine frp_if ?_ ?_
      · skip
        exact frp_s h1
      · skip
        exact frp_s h1
theorem wfX11_order {m : Nat} {σ0 : S2} (hm : 8586241 ||| m = m) (τ : Nat) (σ : S2) (a1 : Int32) (h : Fr gC m σ0 σ) : FrP gC m σ0 (fX11_order τ σ a1) := by
  unfold fX11_order
  exact (wfX11_order_0 hm _ _ _ h)
theorem wfX11_turning_0 {m : Nat} {σ0 : S2} (hm : 262144 ||| m = m) (τ : Nat) (σ : S2) (x1 : Int32) (h : Fr gC m σ0 σ) : FrP gC m σ0 (fX11_turning_0 τ σ x1) := by
  unfold fX11_turning_0
  refine frp_if ?_ ?_
  · skip
    refine frp_ck (fun b1 => ?_)
    refine frp_w (Fr.wI h (tb_of (g := 18) hm rfl)) (fun σ1 h2 => ?_)
    refine frp_w (Fr.wI h2 (tb_of (g := 18) hm rfl)) (fun σ2 h3 => ?_)
    exact frp_s h3
  · skip
    exact frp_s h
theorem wfX11_turning {m : Nat} {σ0 : S2} (hm : 262144 ||| m = m) (τ : Nat) (σ : S2) (a1 : Int32) (h : Fr gC m σ0 σ) : FrP gC m σ0 (fX11_turning τ σ a1) := by
  unfold fX11_turning
  exact (wfX11_turning_0 hm _ _ _ h)
theorem wfX11_harm_0 {m : Nat} {σ0 : S2} (hm : 9176065 ||| m = m) (τ : Nat) (σ : S2) (x1 : Int32) (h : Fr gC m σ0 σ) : FrP gC m σ0 (fX11_harm_0 τ σ x1) := by
  unfold fX11_harm_0
  refine frp_bt ?_ (fun b2 => ?_)
  · skip
    exact frp_s h
  · skip
    refine frp_if ?_ ?_
    · skip
      exact frp_s h
    · skip
      refine frp_bs (wfX10_leastHarm hm _ _ _ h) (fun r3 σ4 h1 => ?_)
      exact frp_s h1
theorem wfX11_harm {m : Nat} {σ0 : S2} (hm : 9176065 ||| m = m) (τ : Nat) (σ : S2) (a1 : Int32) (h : Fr gC m σ0 σ) : FrP gC m σ0 (fX11_harm τ σ a1) := by
  unfold fX11_harm
  exact (wfX11_harm_0 hm _ _ _ h)
theorem wfX11_act_0 {m : Nat} {σ0 : S2} (hm : 1048577 ||| m = m) (τ : Nat) (σ : S2) (x1 : Int32) (x2 : Int32) (x3 : Int32) (h : Fr gC m σ0 σ) : FrP gC m σ0 (fX11_act_0 τ σ x1 x2 x3) := by
  unfold fX11_act_0
  refine frp_w (Fr.wI h (tb_of (g := 20) hm rfl)) (fun σ1 h1 => ?_)
  refine frp_bi (fun r2 => ?_)
  refine frp_if ?_ ?_
  · skip
    exact frp_s h1
  · skip
    refine frp_ck (fun b2 => ?_)
    refine frp_nm (fun v4 => ?_)
    refine frp_ck (fun b3 => ?_)
    refine frp_nm (fun v5 => ?_)
    refine frp_bs (wfX0_run hm _ _ _ _ _ _ _ h1) (fun r6 σ7 h4 => ?_)
    exact frp_s h4
theorem wfX11_act {m : Nat} {σ0 : S2} (hm : 1048577 ||| m = m) (τ : Nat) (σ : S2) (a1 : Int32) (a2 : Int32) (a3 : Int32) (h : Fr gC m σ0 σ) : FrP gC m σ0 (fX11_act τ σ a1 a2 a3) := by
  unfold fX11_act
  exact (wfX11_act_0 hm _ _ _ _ _ h)
theorem wfX11_keep_25 {m : Nat} {σ0 : S2} (hm : 2097152 ||| m = m) (τ : Nat) (σ : S2) (x1 : Int32) (x2 : Int32) (h : Fr gC m σ0 σ) : FrP gC m σ0 (fX11_keep_25 τ σ x1 x2) := by
  unfold fX11_keep_25
  refine frp_bs (wfX7_holdKeeper hm _ _ _ _ h) (fun r1 σ2 h1 => ?_)
  exact frp_s h1
theorem wfX11_keep_0 {m : Nat} {σ0 : S2} (hm : 2097152 ||| m = m) (τ : Nat) (σ : S2) (x1 : Int32) (x2 : Int32) (h : Fr gC m σ0 σ) : FrP gC m σ0 (fX11_keep_0 τ σ x1 x2) := by
  unfold fX11_keep_0
  refine frp_bi (fun r4 => ?_)
  refine frp_if ?_ ?_
  · skip
    exact frp_s h
  · skip
    refine frp_if ?_ ?_
    · skip
      exact (wfX11_keep_25 hm _ _ _ _ h)
    · skip
      refine frp_bi (fun r6 => ?_)
      refine frp_if ?_ ?_
      · skip
        exact frp_s h
      · skip
        exact (wfX11_keep_25 hm _ _ _ _ h)
theorem wfX11_keep {m : Nat} {σ0 : S2} (hm : 2097152 ||| m = m) (τ : Nat) (σ : S2) (a1 : Int32) (a2 : Int32) (h : Fr gC m σ0 σ) : FrP gC m σ0 (fX11_keep τ σ a1 a2) := by
  unfold fX11_keep
  exact (wfX11_keep_0 hm _ _ _ _ h)
theorem wfX11_row_0 {m : Nat} {σ0 : S2} (hm : 6291456 ||| m = m) (τ : Nat) (σ : S2) (x1 : Int32) (x2 : Int32) (x3 : Int32) (h : Fr gC m σ0 σ) : FrP gC m σ0 (fX11_row_0 τ σ x1 x2 x3) := by
  unfold fX11_row_0
  refine frp_bi (fun r1 => ?_)
  refine frp_if ?_ ?_
  · skip
    exact frp_s h
  · skip
    refine frp_if ?_ ?_
    · skip
      exact frp_s h
    · skip
      refine frp_if ?_ ?_
      · skip
        exact frp_s h
      · skip
        refine frp_if ?_ ?_
        · skip
          refine frp_if ?_ ?_
          · skip
            refine frp_bs (wfX7_holdRow hm _ _ _ _ _ h) (fun r3 σ4 h1 => ?_)
            exact frp_s h1
          · skip
            exact frp_s h
        · skip
          exact frp_s h
theorem wfX11_row {m : Nat} {σ0 : S2} (hm : 6291456 ||| m = m) (τ : Nat) (σ : S2) (a1 : Int32) (a2 : Int32) (a3 : Int32) (h : Fr gC m σ0 σ) : FrP gC m σ0 (fX11_row τ σ a1 a2 a3) := by
  unfold fX11_row
  exact (wfX11_row_0 hm _ _ _ _ _ h)
theorem wfX11_put_0 {m : Nat} {σ0 : S2} (hm : 4194304 ||| m = m) (τ : Nat) (σ : S2) (x1 : Int32) (x2 : Int32) (x3 : Int64) (h : Fr gC m σ0 σ) : FrP gC m σ0 (fX11_put_0 τ σ x1 x2 x3) := by
  unfold fX11_put_0
  refine frp_bi (fun r1 => ?_)
  refine frp_if ?_ ?_
  · skip
    exact frp_s h
  · skip
    refine frp_bi (fun r3 => ?_)
    refine frp_if ?_ ?_
    · skip
      refine frp_ck (fun b1 => ?_)
      refine frp_ck (fun b2 => ?_)
      refine frp_nm (fun v6 => ?_)
      refine frp_bi (fun r7 => ?_)
      refine frp_ck (fun b3 => ?_)
      refine frp_w (Fr.wL h (tr_176 (tb_of (g := 22) hm rfl) (by omega))) (fun σ9 h4 => ?_)
      exact frp_s h4
    · skip
      exact frp_s h
theorem wfX11_put {m : Nat} {σ0 : S2} (hm : 4194304 ||| m = m) (τ : Nat) (σ : S2) (a1 : Int32) (a2 : Int32) (a3 : Int64) (h : Fr gC m σ0 σ) : FrP gC m σ0 (fX11_put τ σ a1 a2 a3) := by
  unfold fX11_put
  exact (wfX11_put_0 hm _ _ _ _ _ h)
theorem wfX11_shift_0 {m : Nat} {σ0 : S2} (hm : 4194304 ||| m = m) (τ : Nat) (σ : S2) (x1 : Int32) (x2 : Int32) (x3 : Int32) (x4 : Int32) (x5 : Int32) (h : Fr gC m σ0 σ) : FrP gC m σ0 (fX11_shift_0 τ σ x1 x2 x3 x4 x5) := by
  unfold fX11_shift_0
  refine frp_bi (fun r1 => ?_)
  refine frp_if ?_ ?_
  · skip
    exact frp_s h
  · skip
    refine frp_bi (fun r3 => ?_)
    refine frp_if ?_ ?_
    · skip
      exact frp_s h
    · skip
      refine frp_bi (fun r5 => ?_)
      refine frp_if ?_ ?_
      · skip
        refine frp_bi (fun r7 => ?_)
        refine frp_if ?_ ?_
        · skip
          refine frp_bi (fun r9 => ?_)
          refine frp_if ?_ ?_
          · skip
            exact frp_s h
          · skip
            refine frp_bi (fun r11 => ?_)
            refine frp_if ?_ ?_
            · skip
              exact frp_s h
            · skip
              refine frp_ck (fun b1 => ?_)
              refine frp_nm (fun v13 => ?_)
              refine frp_ck (fun b2 => ?_)
              refine frp_nm (fun v14 => ?_)
              refine frp_if ?_ ?_
              · skip
                refine frp_bi (fun r15 => ?_)
                refine frp_if ?_ ?_
                · skip
                  exact frp_s h
                · skip
                  refine frp_bi (fun r17 => ?_)
                  refine frp_if ?_ ?_
                  · skip
                    exact frp_s h
                  · skip
                    refine frp_ck (fun b3 => ?_)
                    refine frp_ck (fun b4 => ?_)
                    refine frp_cpL ?_
                    refine frp_w (Fr.L h (fun _ => (tr_176 (tb_of (g := 22) hm rfl) (by omega)))) (fun σ21 h5 => ?_)
                    exact frp_s h5
              · skip
                exact frp_s h
        · skip
          exact frp_s h
      · skip
        exact frp_s h
theorem wfX11_shift {m : Nat} {σ0 : S2} (hm : 4194304 ||| m = m) (τ : Nat) (σ : S2) (a1 : Int32) (a2 : Int32) (a3 : Int32) (a4 : Int32) (a5 : Int32) (h : Fr gC m σ0 σ) : FrP gC m σ0 (fX11_shift τ σ a1 a2 a3 a4 a5) := by
  unfold fX11_shift
  exact (wfX11_shift_0 hm _ _ _ _ _ _ _ h)
theorem wfX11_names_0 {m : Nat} {σ0 : S2} (hm : 5 ||| m = m) (τ : Nat) (σ : S2) (x1 : Int32) (x2 : Int32) (x3 : Int32) (h : Fr gC m σ0 σ) : FrP gC m σ0 (fX11_names_0 τ σ x1 x2 x3) := by
  unfold fX11_names_0
  refine frp_bi (fun r1 => ?_)
  refine frp_if ?_ ?_
  · skip
    exact frp_s h
  · skip
    refine frp_if ?_ ?_
    · skip
      exact frp_s h
    · skip
      refine frp_if ?_ ?_
      · skip
        refine frp_bi (fun r3 => ?_)
        refine frp_if ?_ ?_
        · skip
          refine frp_bi (fun r5 => ?_)
          refine frp_if ?_ ?_
          · skip
            exact frp_s h
          · skip
            refine frp_ck (fun b1 => ?_)
            refine frp_nm (fun v7 => ?_)
            refine frp_if ?_ ?_
            · skip
              refine frp_ck (fun b2 => ?_)
              refine frp_ck (fun b3 => ?_)
              refine frp_nm (fun v9 => ?_)
              refine frp_bs (wfX4_addFrom hm _ _ _ _ _ _ _ h) (fun r10 σ11 h4 => ?_)
              exact frp_s h4
            · skip
              exact frp_s h
        · skip
          exact frp_s h
      · skip
        exact frp_s h
theorem wfX11_names {m : Nat} {σ0 : S2} (hm : 5 ||| m = m) (τ : Nat) (σ : S2) (a1 : Int32) (a2 : Int32) (a3 : Int32) (h : Fr gC m σ0 σ) : FrP gC m σ0 (fX11_names τ σ a1 a2 a3) := by
  unfold fX11_names
  exact (wfX11_names_0 hm _ _ _ _ _ h)
