theorem wfX12_feed_27 {m : Nat} {σ0 : S2} (hm : 2 ||| m = m) : ∀ (n : Nat) (σ : S2) (x1 : Int32) (x2 : Int32) (x3 : Int32), Fr gM m σ0 σ → FrP gM m σ0 (fX12_feed_27 n σ x1 x2 x3) := by
  intro n
  induction n with
  | zero => intro σ x1 x2 x3 _; exact frp_n
  | succ n ih =>
    intro σ x1 x2 x3 h
    unfold fX12_feed_27
    refine frp_if ?_ ?_
    · skip
      exact frp_s h
    · skip
      refine frp_ck (fun b1 => ?_)
      refine frp_w (Fr.wI h (tb_of (g := 1) hm rfl)) (fun σ1 h2 => ?_)
      refine frp_w (Fr.wI h2 (tb_of (g := 1) hm rfl)) (fun σ2 h3 => ?_)
      refine frp_nm (fun v3 => ?_)
      exact (ih _ _ _ _ h3)
theorem wfX12_feed_0 {m : Nat} {σ0 : S2} (hm : 2 ||| m = m) (σ : S2) (x1 : Int32) (x2 : Int32) (h : Fr gM m σ0 σ) : FrP gM m σ0 (fX12_feed_0 σ x1 x2) := by
  unfold fX12_feed_0
  refine frp_bi (fun r4 => ?_)
  refine frp_if ?_ ?_
  · skip
    exact frp_s h
  · skip
    refine frp_if ?_ ?_
    · skip
      exact (wfX12_feed_27 hm _ _ _ _ _ h)
    · skip
      exact frp_s h
theorem wfX12_feed {m : Nat} {σ0 : S2} (hm : 2 ||| m = m) (σ : S2) (a1 : Int32) (a2 : Int32) (h : Fr gM m σ0 σ) : FrP gM m σ0 (fX12_feed σ a1 a2) := by
  unfold fX12_feed
  exact (wfX12_feed_0 hm _ _ _ h)
theorem wfX12_comesName_12 {m : Nat} {σ0 : S2} (hm : 4 ||| m = m) : ∀ (n : Nat) (σ : S2) (x1 : Int32) (x2 : Int32), Fr gM m σ0 σ → FrP gM m σ0 (fX12_comesName_12 n σ x1 x2) := by
  intro n
  induction n with
  | zero => intro σ x1 x2 _; exact frp_n
  | succ n ih =>
    intro σ x1 x2 h
    unfold fX12_comesName_12
    refine frp_if ?_ ?_
    · skip
      refine frp_w (Fr.wI h (tb_of (g := 2) hm rfl)) (fun σ1 h1 => ?_)
      exact frp_s h1
    · skip
      refine frp_ck (fun b2 => ?_)
      refine frp_nm (fun v2 => ?_)
      refine frp_ck (fun b3 => ?_)
      refine frp_w (Fr.wI h (tb_of (g := 2) hm rfl)) (fun σ3 h4 => ?_)
      refine frp_nm (fun v4 => ?_)
      exact (ih _ _ _ h4)
theorem wfX12_comesName_0 {m : Nat} {σ0 : S2} (hm : 4 ||| m = m) (σ : S2) (x1 : Int32) (h : Fr gM m σ0 σ) : FrP gM m σ0 (fX12_comesName_0 σ x1) := by
  unfold fX12_comesName_0
  refine frp_ck (fun b1 => ?_)
  refine frp_w (Fr.wI h (tb_of (g := 2) hm rfl)) (fun σ5 h2 => ?_)
  exact (wfX12_comesName_12 hm _ _ _ _ h2)
theorem wfX12_comesName {m : Nat} {σ0 : S2} (hm : 4 ||| m = m) (σ : S2) (a1 : Int32) (h : Fr gM m σ0 σ) : FrP gM m σ0 (fX12_comesName σ a1) := by
  unfold fX12_comesName
  exact (wfX12_comesName_0 hm _ _ h)
theorem wfX12_name_85 {m : Nat} {σ0 : S2} (hm : 7 ||| m = m) (σ : S2) (x1 : Int32) (h : Fr gM m σ0 σ) : FrP gM m σ0 (fX12_name_85 σ x1) := by
  unfold fX12_name_85
  refine frp_w (Fr.wI h (tb_of (g := 1) hm rfl)) (fun σ1 h1 => ?_)
  exact frp_s h1
theorem wfX12_name_68 {m : Nat} {σ0 : S2} (hm : 7 ||| m = m) (σ : S2) (x1 : Int32) (h : Fr gM m σ0 σ) : FrP gM m σ0 (fX12_name_68 σ x1) := by
  unfold fX12_name_68
  refine frp_if ?_ ?_
  · skip
    exact (wfX12_name_85 hm _ _ h)
  · skip
    refine frp_nm (fun v2 => ?_)
    refine frp_bs (wfX12_comesName (tb_sub (a := 7) rfl hm) _ _ h) (fun r3 σ4 h1 => ?_)
    exact (wfX12_name_85 hm _ _ h1)
theorem wfX12_name_17 {m : Nat} {σ0 : S2} (hm : 7 ||| m = m) : ∀ (n : Nat) (σ : S2) (x1 : Int32), Fr gM m σ0 σ → FrP gM m σ0 (fX12_name_17 n σ x1) := by
  intro n
  induction n with
  | zero => intro σ x1 _; exact frp_n
  | succ n ih =>
    intro σ x1 h
    unfold fX12_name_17
    refine frp_if ?_ ?_
    · skip
      refine frp_bi (fun r6 => ?_)
      refine frp_if ?_ ?_
      · skip
        exact (wfX12_name_68 hm _ _ h)
      · skip
        refine frp_if ?_ ?_
        · skip
          exact frp_s h
        · skip
          exact (wfX12_name_68 hm _ _ h)
    · skip
      refine frp_ck (fun b1 => ?_)
      refine frp_nm (fun v8 => ?_)
      refine frp_ck (fun b2 => ?_)
      refine frp_w (Fr.wI h (tb_of (g := 0) hm rfl)) (fun σ9 h3 => ?_)
      refine frp_nm (fun v10 => ?_)
      exact (ih _ _ h3)
theorem wfX12_name_0 {m : Nat} {σ0 : S2} (hm : 7 ||| m = m) (σ : S2) (h : Fr gM m σ0 σ) : FrP gM m σ0 (fX12_name_0 σ) := by
  unfold fX12_name_0
  refine frp_bi (fun r11 => ?_)
  refine frp_if ?_ ?_
  · skip
    exact frp_s h
  · skip
    exact (wfX12_name_17 hm _ _ _ h)
theorem wfX12_name {m : Nat} {σ0 : S2} (hm : 7 ||| m = m) (σ : S2) (h : Fr gM m σ0 σ) : FrP gM m σ0 (fX12_name σ) := by
  unfold fX12_name
  exact (wfX12_name_0 hm _ h)
theorem wfX12_keeper_0 {m : Nat} {σ0 : S2} (hm : 104 ||| m = m) (σ : S2) (x1 : Int32) (x2 : Int32) (h : Fr gM m σ0 σ) : FrP gM m σ0 (fX12_keeper_0 σ x1 x2) := by
  unfold fX12_keeper_0
  refine frp_bi (fun r1 => ?_)
  refine frp_if ?_ ?_
  · skip
    exact frp_s h
  · skip
    refine frp_bi (fun r3 => ?_)
    refine frp_if ?_ ?_
    · skip
      exact frp_s h
    · skip
      refine frp_if ?_ ?_
      · skip
        exact frp_s h
      · skip
        refine frp_ck (fun b1 => ?_)
        refine frp_w (Fr.wI h (tb_of (g := 5) hm rfl)) (fun σ5 h2 => ?_)
        refine frp_ck (fun b3 => ?_)
        refine frp_w (Fr.wI h2 (tb_of (g := 6) hm rfl)) (fun σ6 h4 => ?_)
        refine frp_w (Fr.wI h4 (tb_of (g := 3) hm rfl)) (fun σ7 h5 => ?_)
        exact frp_s h5
theorem wfX12_keeper {m : Nat} {σ0 : S2} (hm : 104 ||| m = m) (σ : S2) (a1 : Int32) (a2 : Int32) (h : Fr gM m σ0 σ) : FrP gM m σ0 (fX12_keeper σ a1 a2) := by
  unfold fX12_keeper
  exact (wfX12_keeper_0 hm _ _ _ h)
theorem wfX12_become_136 {m : Nat} {σ0 : S2} (hm : 6160 ||| m = m) (k37 : S2 → Int32 → Int32 → Int32 → Int32 → Option (Int32 × S2)) (hk37 : ∀ (y0 : S2) (y1 : Int32) (y2 : Int32) (y3 : Int32) (y4 : Int32), Fr gM m σ0 y0 → FrP gM m σ0 (k37 y0 y1 y2 y3 y4)) (σ : S2) (x1 : Int32) (x2 : Int32) (x3 : Int32) (x4 : Int32) (h : Fr gM m σ0 σ) : FrP gM m σ0 (fX12_become_136 k37 σ x1 x2 x3 x4) := by
  unfold fX12_become_136
  refine frp_nm (fun v1 => ?_)
  exact (hk37 _ _ _ _ _ h)
theorem wfX12_become_118 {m : Nat} {σ0 : S2} (hm : 6160 ||| m = m) (k37 : S2 → Int32 → Int32 → Int32 → Int32 → Option (Int32 × S2)) (hk37 : ∀ (y0 : S2) (y1 : Int32) (y2 : Int32) (y3 : Int32) (y4 : Int32), Fr gM m σ0 y0 → FrP gM m σ0 (k37 y0 y1 y2 y3 y4)) (σ : S2) (x1 : Int32) (x2 : Int32) (x3 : Int32) (x4 : Int32) (s0 : Int32) (s1 : Int32) (h : Fr gM m σ0 σ) : FrP gM m σ0 (fX12_become_118 k37 σ x1 x2 x3 x4 s0 s1) := by
  unfold fX12_become_118
  refine frp_ck (fun b1 => ?_)
  refine frp_w (Fr.wI h (tb_of (g := 11) hm rfl)) (fun σ2 h2 => ?_)
  refine frp_ck (fun b3 => ?_)
  refine frp_w (Fr.wI h2 (tb_of (g := 12) hm rfl)) (fun σ3 h4 => ?_)
  refine frp_ck (fun b5 => ?_)
  refine frp_w (Fr.wI h4 (tb_of (g := 12) hm rfl)) (fun σ4 h6 => ?_)
  exact (wfX12_become_136 hm _ hk37 _ _ _ _ _ h6)
theorem wfX12_become_37 {m : Nat} {σ0 : S2} (hm : 6160 ||| m = m) : ∀ (n : Nat) (σ : S2) (x1 : Int32) (x2 : Int32) (x3 : Int32) (x4 : Int32), Fr gM m σ0 σ → FrP gM m σ0 (fX12_become_37 n σ x1 x2 x3 x4) := by
  intro n
  induction n with
  | zero => intro σ x1 x2 x3 x4 _; exact frp_n
  | succ n ih =>
    intro σ x1 x2 x3 x4 h
    unfold fX12_become_37
    refine frp_if ?_ ?_
    · skip
      exact frp_s h
    · skip
      refine frp_if ?_ ?_
      · skip
        refine frp_if ?_ ?_
        · skip
          exact frp_s h
        · skip
          refine frp_ck (fun b1 => ?_)
          refine frp_nm (fun v5 => ?_)
          refine frp_if ?_ ?_
          · skip
            refine frp_dz ?_
            refine frp_nm (fun v7 => ?_)
            refine frp_ck (fun b2 => ?_)
            refine frp_nm (fun v8 => ?_)
            refine frp_ck (fun b3 => ?_)
            refine frp_nm (fun v9 => ?_)
            refine frp_if ?_ ?_
            · skip
              refine frp_ck (fun b4 => ?_)
              refine frp_nm (fun v10 => ?_)
              exact (wfX12_become_118 hm _ ih _ _ _ _ _ _ _ h)
            · skip
              refine frp_ck (fun b5 => ?_)
              refine frp_nm (fun v11 => ?_)
              exact (wfX12_become_118 hm _ ih _ _ _ _ _ _ _ h)
          · skip
            exact (wfX12_become_136 hm _ ih _ _ _ _ _ h)
      · skip
        exact frp_s h
theorem wfX12_become_0 {m : Nat} {σ0 : S2} (hm : 6160 ||| m = m) (σ : S2) (x1 : Int32) (x2 : Int32) (h : Fr gM m σ0 σ) : FrP gM m σ0 (fX12_become_0 σ x1 x2) := by
  unfold fX12_become_0
  refine frp_bi (fun r12 => ?_)
  refine frp_if ?_ ?_
  · skip
    exact frp_s h
  · skip
    refine frp_bi (fun r14 => ?_)
    refine frp_if ?_ ?_
    · skip
      exact frp_s h
    · skip
      refine frp_ck (fun b1 => ?_)
      refine frp_nm (fun v16 => ?_)
      refine frp_ck (fun b2 => ?_)
      refine frp_w (Fr.wI h (tb_of (g := 4) hm rfl)) (fun σ17 h3 => ?_)
      exact (wfX12_become_37 hm _ _ _ _ _ _ h3)
theorem wfX12_become {m : Nat} {σ0 : S2} (hm : 6160 ||| m = m) (σ : S2) (a1 : Int32) (a2 : Int32) (h : Fr gM m σ0 σ) : FrP gM m σ0 (fX12_become σ a1 a2) := by
  unfold fX12_become
  exact (wfX12_become_0 hm _ _ _ h)
theorem wfX12_strength_0 {m : Nat} {σ0 : S2} (hm : 64 ||| m = m) (σ : S2) (x1 : Int32) (x2 : Int32) (h : Fr gM m σ0 σ) : FrP gM m σ0 (fX12_strength_0 σ x1 x2) := by
  unfold fX12_strength_0
  refine frp_bi (fun r1 => ?_)
  refine frp_if ?_ ?_
  · skip
    exact frp_s h
  · skip
    refine frp_bi (fun r3 => ?_)
    refine frp_if ?_ ?_
    · skip
      exact frp_s h
    · skip
      refine frp_ck (fun b1 => ?_)
      refine frp_nm (fun v5 => ?_)
      refine frp_ck (fun b2 => ?_)
      refine frp_w (Fr.wI h (tb_of (g := 6) hm rfl)) (fun σ6 h3 => ?_)
      exact frp_s h3
theorem wfX12_strength {m : Nat} {σ0 : S2} (hm : 64 ||| m = m) (σ : S2) (a1 : Int32) (a2 : Int32) (h : Fr gM m σ0 σ) : FrP gM m σ0 (fX12_strength σ a1 a2) := by
  unfold fX12_strength
  exact (wfX12_strength_0 hm _ _ _ h)
theorem wfX12_eats_28 {m : Nat} {σ0 : S2} (hm : 1 ||| m = m) (σ : S2) (h : Fr gM m σ0 σ) : FrP gM m σ0 (fX12_eats_28 σ) := by
  unfold fX12_eats_28
  refine frp_w (Fr.wI h (tb_of (g := 0) hm rfl)) (fun σ1 h1 => ?_)
  exact frp_s h1
theorem wfX12_eats_0 {m : Nat} {σ0 : S2} (hm : 1 ||| m = m) (σ : S2) (x1 : Int32) (h : Fr gM m σ0 σ) : FrP gM m σ0 (fX12_eats_0 σ x1) := by
  unfold fX12_eats_0
  refine frp_if ?_ ?_
  · skip
    refine frp_bi (fun r2 => ?_)
    refine frp_if ?_ ?_
    · skip
      refine frp_w (Fr.wI h (tb_of (g := 0) hm rfl)) (fun σ4 h1 => ?_)
      exact frp_s h1
    · skip
      exact (wfX12_eats_28 hm _ h)
  · skip
    exact (wfX12_eats_28 hm _ h)
theorem wfX12_eats {m : Nat} {σ0 : S2} (hm : 1 ||| m = m) (σ : S2) (a1 : Int32) (h : Fr gM m σ0 σ) : FrP gM m σ0 (fX12_eats σ a1) := by
  unfold fX12_eats
  exact (wfX12_eats_0 hm _ _ h)
theorem wfX12_sum_73 {m : Nat} {σ0 : S2} (hm : 1 ||| m = m) (qX12_sum : S2 → Option (Int32 × S2)) (qX12_product : S2 → Option (Int32 × S2)) (qX12_one : S2 → Option (Int32 × S2)) (k5 : S2 → Int32 → Option (Int32 × S2)) (hqX12_sum : ∀ (y0 : S2), Fr gM m σ0 y0 → FrP gM m σ0 (qX12_sum y0)) (hqX12_product : ∀ (y0 : S2), Fr gM m σ0 y0 → FrP gM m σ0 (qX12_product y0)) (hqX12_one : ∀ (y0 : S2), Fr gM m σ0 y0 → FrP gM m σ0 (qX12_one y0)) (hk5 : ∀ (y0 : S2) (y1 : Int32), Fr gM m σ0 y0 → FrP gM m σ0 (k5 y0 y1)) (σ : S2) (s0 : Int32) (h : Fr gM m σ0 σ) : FrP gM m σ0 (fX12_sum_73 qX12_sum qX12_product qX12_one k5 σ s0) := by
  unfold fX12_sum_73
  exact (hk5 _ _ h)
theorem wfX12_sum_44 {m : Nat} {σ0 : S2} (hm : 1 ||| m = m) (qX12_sum : S2 → Option (Int32 × S2)) (qX12_product : S2 → Option (Int32 × S2)) (qX12_one : S2 → Option (Int32 × S2)) (k5 : S2 → Int32 → Option (Int32 × S2)) (hqX12_sum : ∀ (y0 : S2), Fr gM m σ0 y0 → FrP gM m σ0 (qX12_sum y0)) (hqX12_product : ∀ (y0 : S2), Fr gM m σ0 y0 → FrP gM m σ0 (qX12_product y0)) (hqX12_one : ∀ (y0 : S2), Fr gM m σ0 y0 → FrP gM m σ0 (qX12_one y0)) (hk5 : ∀ (y0 : S2) (y1 : Int32), Fr gM m σ0 y0 → FrP gM m σ0 (k5 y0 y1)) (σ : S2) (x1 : Int32) (s0 : Int32) (h : Fr gM m σ0 σ) : FrP gM m σ0 (fX12_sum_44 qX12_sum qX12_product qX12_one k5 σ x1 s0) := by
  unfold fX12_sum_44
  refine frp_w (Fr.wI h (tb_of (g := 0) hm rfl)) (fun σ1 h1 => ?_)
  refine frp_bs (hqX12_product _ h1) (fun r2 σ3 h2 => ?_)
  refine frp_if ?_ ?_
  · skip
    exact (wfX12_sum_73 hm _ _ _ _ hqX12_sum hqX12_product hqX12_one hk5 _ _ h2)
  · skip
    exact (wfX12_sum_73 hm _ _ _ _ hqX12_sum hqX12_product hqX12_one hk5 _ _ h2)
theorem wfX12_sum_30 {m : Nat} {σ0 : S2} (hm : 1 ||| m = m) (qX12_sum : S2 → Option (Int32 × S2)) (qX12_product : S2 → Option (Int32 × S2)) (qX12_one : S2 → Option (Int32 × S2)) (k5 : S2 → Int32 → Option (Int32 × S2)) (hqX12_sum : ∀ (y0 : S2), Fr gM m σ0 y0 → FrP gM m σ0 (qX12_sum y0)) (hqX12_product : ∀ (y0 : S2), Fr gM m σ0 y0 → FrP gM m σ0 (qX12_product y0)) (hqX12_one : ∀ (y0 : S2), Fr gM m σ0 y0 → FrP gM m σ0 (qX12_one y0)) (hk5 : ∀ (y0 : S2) (y1 : Int32), Fr gM m σ0 y0 → FrP gM m σ0 (k5 y0 y1)) (σ : S2) (x1 : Int32) (h : Fr gM m σ0 σ) : FrP gM m σ0 (fX12_sum_30 qX12_sum qX12_product qX12_one k5 σ x1) := by
  unfold fX12_sum_30
  refine frp_bi (fun r5 => ?_)
  refine frp_if ?_ ?_
  · skip
    exact (wfX12_sum_44 hm _ _ _ _ hqX12_sum hqX12_product hqX12_one hk5 _ _ _ h)
  · skip
    exact (wfX12_sum_44 hm _ _ _ _ hqX12_sum hqX12_product hqX12_one hk5 _ _ _ h)
theorem wfX12_sum_5 {m : Nat} {σ0 : S2} (hm : 1 ||| m = m) (qX12_sum : S2 → Option (Int32 × S2)) (qX12_product : S2 → Option (Int32 × S2)) (qX12_one : S2 → Option (Int32 × S2)) (hqX12_sum : ∀ (y0 : S2), Fr gM m σ0 y0 → FrP gM m σ0 (qX12_sum y0)) (hqX12_product : ∀ (y0 : S2), Fr gM m σ0 y0 → FrP gM m σ0 (qX12_product y0)) (hqX12_one : ∀ (y0 : S2), Fr gM m σ0 y0 → FrP gM m σ0 (qX12_one y0)) : ∀ (n : Nat) (σ : S2) (x1 : Int32), Fr gM m σ0 σ → FrP gM m σ0 (fX12_sum_5 qX12_sum qX12_product qX12_one n σ x1) := by
  intro n
  induction n with
  | zero => intro σ x1 _; exact frp_n
  | succ n ih =>
    intro σ x1 h
    unfold fX12_sum_5
    refine frp_if ?_ ?_
    · skip
      refine frp_bi (fun r7 => ?_)
      refine frp_if ?_ ?_
      · skip
        exact (wfX12_sum_30 hm _ _ _ _ hqX12_sum hqX12_product hqX12_one ih _ _ h)
      · skip
        refine frp_bi (fun r9 => ?_)
        refine frp_if ?_ ?_
        · skip
          exact (wfX12_sum_30 hm _ _ _ _ hqX12_sum hqX12_product hqX12_one ih _ _ h)
        · skip
          exact frp_s h
    · skip
      exact frp_s h
theorem wfX12_sum_0 {m : Nat} {σ0 : S2} (hm : 1 ||| m = m) (qX12_sum : S2 → Option (Int32 × S2)) (qX12_product : S2 → Option (Int32 × S2)) (qX12_one : S2 → Option (Int32 × S2)) (hqX12_sum : ∀ (y0 : S2), Fr gM m σ0 y0 → FrP gM m σ0 (qX12_sum y0)) (hqX12_product : ∀ (y0 : S2), Fr gM m σ0 y0 → FrP gM m σ0 (qX12_product y0)) (hqX12_one : ∀ (y0 : S2), Fr gM m σ0 y0 → FrP gM m σ0 (qX12_one y0)) (σ : S2) (h : Fr gM m σ0 σ) : FrP gM m σ0 (fX12_sum_0 qX12_sum qX12_product qX12_one σ) := by
  unfold fX12_sum_0
  refine frp_bs (hqX12_product _ h) (fun r11 σ12 h1 => ?_)
  exact (wfX12_sum_5 hm _ _ _ hqX12_sum hqX12_product hqX12_one _ _ _ h1)
theorem weX12_sum {m : Nat} {σ0 : S2} (hm : 1 ||| m = m) (qX12_sum : S2 → Option (Int32 × S2)) (qX12_product : S2 → Option (Int32 × S2)) (qX12_one : S2 → Option (Int32 × S2)) (hqX12_sum : ∀ (y0 : S2), Fr gM m σ0 y0 → FrP gM m σ0 (qX12_sum y0)) (hqX12_product : ∀ (y0 : S2), Fr gM m σ0 y0 → FrP gM m σ0 (qX12_product y0)) (hqX12_one : ∀ (y0 : S2), Fr gM m σ0 y0 → FrP gM m σ0 (qX12_one y0)) (σ : S2) (h : Fr gM m σ0 σ) : FrP gM m σ0 (eX12_sum qX12_sum qX12_product qX12_one σ) := by
  unfold eX12_sum
  exact (wfX12_sum_0 hm _ _ _ hqX12_sum hqX12_product hqX12_one _ h)
theorem wfX12_product_114 {m : Nat} {σ0 : S2} (hm : 1 ||| m = m) (qX12_sum : S2 → Option (Int32 × S2)) (qX12_product : S2 → Option (Int32 × S2)) (qX12_one : S2 → Option (Int32 × S2)) (k5 : S2 → Int32 → Option (Int32 × S2)) (hqX12_sum : ∀ (y0 : S2), Fr gM m σ0 y0 → FrP gM m σ0 (qX12_sum y0)) (hqX12_product : ∀ (y0 : S2), Fr gM m σ0 y0 → FrP gM m σ0 (qX12_product y0)) (hqX12_one : ∀ (y0 : S2), Fr gM m σ0 y0 → FrP gM m σ0 (qX12_one y0)) (hk5 : ∀ (y0 : S2) (y1 : Int32), Fr gM m σ0 y0 → FrP gM m σ0 (k5 y0 y1)) (σ : S2) (s0 : Int32) (h : Fr gM m σ0 σ) : FrP gM m σ0 (fX12_product_114 qX12_sum qX12_product qX12_one k5 σ s0) := by
  unfold fX12_product_114
  exact (hk5 _ _ h)
theorem wfX12_product_39 {m : Nat} {σ0 : S2} (hm : 1 ||| m = m) (qX12_sum : S2 → Option (Int32 × S2)) (qX12_product : S2 → Option (Int32 × S2)) (qX12_one : S2 → Option (Int32 × S2)) (k5 : S2 → Int32 → Option (Int32 × S2)) (hqX12_sum : ∀ (y0 : S2), Fr gM m σ0 y0 → FrP gM m σ0 (qX12_sum y0)) (hqX12_product : ∀ (y0 : S2), Fr gM m σ0 y0 → FrP gM m σ0 (qX12_product y0)) (hqX12_one : ∀ (y0 : S2), Fr gM m σ0 y0 → FrP gM m σ0 (qX12_one y0)) (hk5 : ∀ (y0 : S2) (y1 : Int32), Fr gM m σ0 y0 → FrP gM m σ0 (k5 y0 y1)) (σ : S2) (x1 : Int32) (h : Fr gM m σ0 σ) : FrP gM m σ0 (fX12_product_39 qX12_sum qX12_product qX12_one k5 σ x1) := by
  unfold fX12_product_39
  refine frp_bi (fun r1 => ?_)
  refine frp_w (Fr.wI h (tb_of (g := 0) hm rfl)) (fun σ3 h1 => ?_)
  refine frp_bs (hqX12_one _ h1) (fun r4 σ5 h2 => ?_)
  refine frp_if ?_ ?_
  · skip
    exact (wfX12_product_114 hm _ _ _ _ hqX12_sum hqX12_product hqX12_one hk5 _ _ h2)
  · skip
    refine frp_if ?_ ?_
    · skip
      exact (wfX12_product_114 hm _ _ _ _ hqX12_sum hqX12_product hqX12_one hk5 _ _ h2)
    · skip
      refine frp_if ?_ ?_
      · skip
        refine frp_if ?_ ?_
        · skip
          exact (wfX12_product_114 hm _ _ _ _ hqX12_sum hqX12_product hqX12_one hk5 _ _ h2)
        · skip
          exact (wfX12_product_114 hm _ _ _ _ hqX12_sum hqX12_product hqX12_one hk5 _ _ h2)
      · skip
        refine frp_if ?_ ?_
        · skip
          refine frp_dz ?_
          exact (wfX12_product_114 hm _ _ _ _ hqX12_sum hqX12_product hqX12_one hk5 _ _ h2)
        · skip
          refine frp_dz ?_
          exact (wfX12_product_114 hm _ _ _ _ hqX12_sum hqX12_product hqX12_one hk5 _ _ h2)
theorem wfX12_product_5 {m : Nat} {σ0 : S2} (hm : 1 ||| m = m) (qX12_sum : S2 → Option (Int32 × S2)) (qX12_product : S2 → Option (Int32 × S2)) (qX12_one : S2 → Option (Int32 × S2)) (hqX12_sum : ∀ (y0 : S2), Fr gM m σ0 y0 → FrP gM m σ0 (qX12_sum y0)) (hqX12_product : ∀ (y0 : S2), Fr gM m σ0 y0 → FrP gM m σ0 (qX12_product y0)) (hqX12_one : ∀ (y0 : S2), Fr gM m σ0 y0 → FrP gM m σ0 (qX12_one y0)) : ∀ (n : Nat) (σ : S2) (x1 : Int32), Fr gM m σ0 σ → FrP gM m σ0 (fX12_product_5 qX12_sum qX12_product qX12_one n σ x1) := by
  intro n
  induction n with
  | zero => intro σ x1 _; exact frp_n
  | succ n ih =>
    intro σ x1 h
    unfold fX12_product_5
    refine frp_if ?_ ?_
    · skip
      refine frp_bi (fun r9 => ?_)
      refine frp_if ?_ ?_
      · skip
        exact (wfX12_product_39 hm _ _ _ _ hqX12_sum hqX12_product hqX12_one ih _ _ h)
      · skip
        refine frp_bi (fun r11 => ?_)
        refine frp_if ?_ ?_
        · skip
          exact (wfX12_product_39 hm _ _ _ _ hqX12_sum hqX12_product hqX12_one ih _ _ h)
        · skip
          refine frp_bi (fun r13 => ?_)
          refine frp_if ?_ ?_
          · skip
            exact (wfX12_product_39 hm _ _ _ _ hqX12_sum hqX12_product hqX12_one ih _ _ h)
          · skip
            exact frp_s h
    · skip
      exact frp_s h
theorem wfX12_product_0 {m : Nat} {σ0 : S2} (hm : 1 ||| m = m) (qX12_sum : S2 → Option (Int32 × S2)) (qX12_product : S2 → Option (Int32 × S2)) (qX12_one : S2 → Option (Int32 × S2)) (hqX12_sum : ∀ (y0 : S2), Fr gM m σ0 y0 → FrP gM m σ0 (qX12_sum y0)) (hqX12_product : ∀ (y0 : S2), Fr gM m σ0 y0 → FrP gM m σ0 (qX12_product y0)) (hqX12_one : ∀ (y0 : S2), Fr gM m σ0 y0 → FrP gM m σ0 (qX12_one y0)) (σ : S2) (h : Fr gM m σ0 σ) : FrP gM m σ0 (fX12_product_0 qX12_sum qX12_product qX12_one σ) := by
  unfold fX12_product_0
  refine frp_bs (hqX12_one _ h) (fun r15 σ16 h1 => ?_)
  exact (wfX12_product_5 hm _ _ _ hqX12_sum hqX12_product hqX12_one _ _ _ h1)
theorem weX12_product {m : Nat} {σ0 : S2} (hm : 1 ||| m = m) (qX12_sum : S2 → Option (Int32 × S2)) (qX12_product : S2 → Option (Int32 × S2)) (qX12_one : S2 → Option (Int32 × S2)) (hqX12_sum : ∀ (y0 : S2), Fr gM m σ0 y0 → FrP gM m σ0 (qX12_sum y0)) (hqX12_product : ∀ (y0 : S2), Fr gM m σ0 y0 → FrP gM m σ0 (qX12_product y0)) (hqX12_one : ∀ (y0 : S2), Fr gM m σ0 y0 → FrP gM m σ0 (qX12_one y0)) (σ : S2) (h : Fr gM m σ0 σ) : FrP gM m σ0 (eX12_product qX12_sum qX12_product qX12_one σ) := by
  unfold eX12_product
  exact (wfX12_product_0 hm _ _ _ hqX12_sum hqX12_product hqX12_one _ h)
theorem wfX12_one_160 {m : Nat} {σ0 : S2} (hm : 1 ||| m = m) (qX12_sum : S2 → Option (Int32 × S2)) (qX12_product : S2 → Option (Int32 × S2)) (qX12_one : S2 → Option (Int32 × S2)) (hqX12_sum : ∀ (y0 : S2), Fr gM m σ0 y0 → FrP gM m σ0 (qX12_sum y0)) (hqX12_product : ∀ (y0 : S2), Fr gM m σ0 y0 → FrP gM m σ0 (qX12_product y0)) (hqX12_one : ∀ (y0 : S2), Fr gM m σ0 y0 → FrP gM m σ0 (qX12_one y0)) (σ : S2) (x1 : Int32) (h : Fr gM m σ0 σ) : FrP gM m σ0 (fX12_one_160 qX12_sum qX12_product qX12_one σ x1) := by
  unfold fX12_one_160
  refine frp_w (Fr.wI h (tb_of (g := 0) hm rfl)) (fun σ1 h1 => ?_)
  refine frp_if ?_ ?_
  · skip
    exact frp_s h1
  · skip
    refine frp_if ?_ ?_
    · skip
      exact frp_s h1
    · skip
      refine frp_if ?_ ?_
      · skip
        exact frp_s h1
      · skip
        exact frp_s h1
theorem wfX12_one_136 {m : Nat} {σ0 : S2} (hm : 1 ||| m = m) (qX12_sum : S2 → Option (Int32 × S2)) (qX12_product : S2 → Option (Int32 × S2)) (qX12_one : S2 → Option (Int32 × S2)) (hqX12_sum : ∀ (y0 : S2), Fr gM m σ0 y0 → FrP gM m σ0 (qX12_sum y0)) (hqX12_product : ∀ (y0 : S2), Fr gM m σ0 y0 → FrP gM m σ0 (qX12_product y0)) (hqX12_one : ∀ (y0 : S2), Fr gM m σ0 y0 → FrP gM m σ0 (qX12_one y0)) (σ : S2) (x1 : Int32) (h : Fr gM m σ0 σ) : FrP gM m σ0 (fX12_one_136 qX12_sum qX12_product qX12_one σ x1) := by
  unfold fX12_one_136
  refine frp_if ?_ ?_
  · skip
    exact (wfX12_one_160 hm _ _ _ hqX12_sum hqX12_product hqX12_one _ _ h)
  · skip
    refine frp_if ?_ ?_
    · skip
      exact (wfX12_one_160 hm _ _ _ hqX12_sum hqX12_product hqX12_one _ _ h)
    · skip
      refine frp_if ?_ ?_
      · skip
        exact (wfX12_one_160 hm _ _ _ hqX12_sum hqX12_product hqX12_one _ _ h)
      · skip
        refine frp_if ?_ ?_
        · skip
          exact (wfX12_one_160 hm _ _ _ hqX12_sum hqX12_product hqX12_one _ _ h)
        · skip
          refine frp_w (Fr.wI h (tb_of (g := 0) hm rfl)) (fun σ2 h1 => ?_)
          exact frp_s h1
theorem wfX12_one_29 {m : Nat} {σ0 : S2} (hm : 1 ||| m = m) (qX12_sum : S2 → Option (Int32 × S2)) (qX12_product : S2 → Option (Int32 × S2)) (qX12_one : S2 → Option (Int32 × S2)) (hqX12_sum : ∀ (y0 : S2), Fr gM m σ0 y0 → FrP gM m σ0 (qX12_sum y0)) (hqX12_product : ∀ (y0 : S2), Fr gM m σ0 y0 → FrP gM m σ0 (qX12_product y0)) (hqX12_one : ∀ (y0 : S2), Fr gM m σ0 y0 → FrP gM m σ0 (qX12_one y0)) : ∀ (n : Nat) (σ : S2) (x2 : Int32) (x3 : Int32), Fr gM m σ0 σ → FrP gM m σ0 (fX12_one_29 qX12_sum qX12_product qX12_one n σ x2 x3) := by
  intro n
  induction n with
  | zero => intro σ x2 x3 _; exact frp_n
  | succ n ih =>
    intro σ x2 x3 h
    unfold fX12_one_29
    refine frp_if ?_ ?_
    · skip
      exact frp_s h
    · skip
      refine frp_bi (fun r3 => ?_)
      refine frp_bi (fun r5 => ?_)
      refine frp_if ?_ ?_
      · skip
        exact frp_s h
      · skip
        refine frp_bi (fun r7 => ?_)
        refine frp_nm (fun v9 => ?_)
        refine frp_w (Fr.wI h (tb_of (g := 0) hm rfl)) (fun σ10 h1 => ?_)
        refine frp_nm (fun v11 => ?_)
        exact (ih _ _ _ h1)
theorem wfX12_one_0 {m : Nat} {σ0 : S2} (hm : 1 ||| m = m) (qX12_sum : S2 → Option (Int32 × S2)) (qX12_product : S2 → Option (Int32 × S2)) (qX12_one : S2 → Option (Int32 × S2)) (hqX12_sum : ∀ (y0 : S2), Fr gM m σ0 y0 → FrP gM m σ0 (qX12_sum y0)) (hqX12_product : ∀ (y0 : S2), Fr gM m σ0 y0 → FrP gM m σ0 (qX12_product y0)) (hqX12_one : ∀ (y0 : S2), Fr gM m σ0 y0 → FrP gM m σ0 (qX12_one y0)) (σ : S2) (h : Fr gM m σ0 σ) : FrP gM m σ0 (fX12_one_0 qX12_sum qX12_product qX12_one σ) := by
  unfold fX12_one_0
  refine frp_bi (fun r12 => ?_)
  refine frp_if ?_ ?_
  · skip
    refine frp_bi (fun r14 => ?_)
    refine frp_if ?_ ?_
    · skip
      refine frp_if ?_ ?_
      · skip
        refine frp_if ?_ ?_
        · skip
          exact (wfX12_one_136 hm _ _ _ hqX12_sum hqX12_product hqX12_one _ _ h)
        · skip
          refine frp_w (Fr.wI h (tb_of (g := 0) hm rfl)) (fun σ16 h1 => ?_)
          refine frp_w (Fr.wI h1 (tb_of (g := 0) hm rfl)) (fun σ17 h2 => ?_)
          refine frp_bs (hqX12_sum _ h2) (fun r18 σ19 h3 => ?_)
          refine frp_bs (wfX12_eats hm _ _ h3) (fun r21 σ22 h4 => ?_)
          refine frp_w (Fr.wI h4 (tb_of (g := 0) hm rfl)) (fun σ24 h5 => ?_)
          exact frp_s h5
      · skip
        exact (wfX12_one_136 hm _ _ _ hqX12_sum hqX12_product hqX12_one _ _ h)
    · skip
      exact (wfX12_one_29 hm _ _ _ hqX12_sum hqX12_product hqX12_one _ _ _ _ h)
  · skip
    exact frp_s h
theorem weX12_one {m : Nat} {σ0 : S2} (hm : 1 ||| m = m) (qX12_sum : S2 → Option (Int32 × S2)) (qX12_product : S2 → Option (Int32 × S2)) (qX12_one : S2 → Option (Int32 × S2)) (hqX12_sum : ∀ (y0 : S2), Fr gM m σ0 y0 → FrP gM m σ0 (qX12_sum y0)) (hqX12_product : ∀ (y0 : S2), Fr gM m σ0 y0 → FrP gM m σ0 (qX12_product y0)) (hqX12_one : ∀ (y0 : S2), Fr gM m σ0 y0 → FrP gM m σ0 (qX12_one y0)) (σ : S2) (h : Fr gM m σ0 σ) : FrP gM m σ0 (eX12_one qX12_sum qX12_product qX12_one σ) := by
  unfold eX12_one
  exact (wfX12_one_0 hm _ _ _ hqX12_sum hqX12_product hqX12_one _ h)
theorem wGX12_sum {m : Nat} {σ0 : S2} (hm : 1 ||| m = m) : ∀ (d j : Nat) (σ : S2), Fr gM m σ0 σ → FrP gM m σ0 (GX12_sum d j σ) := by
  intro d
  induction d with
  | zero => intro j σ _; exact frp_n
  | succ d ih =>
    intro j σ h
    match j with
    | 0 => exact (weX12_sum hm _ _ _ (ih 0) (ih 1) (ih 2) _ h)
    | 1 => exact (weX12_product hm _ _ _ (ih 0) (ih 1) (ih 2) _ h)
    | j + 2 => exact (weX12_one hm _ _ _ (ih 0) (ih 1) (ih 2) _ h)
theorem wfX12_sum {m : Nat} {σ0 : S2} (hm : 1 ||| m = m) (σ : S2) (h : Fr gM m σ0 σ) : FrP gM m σ0 (fX12_sum σ) := by
  unfold fX12_sum
  exact (wGX12_sum hm _ _ _ h)
theorem wfX12_product {m : Nat} {σ0 : S2} (hm : 1 ||| m = m) (σ : S2) (h : Fr gM m σ0 σ) : FrP gM m σ0 (fX12_product σ) := by
  unfold fX12_product
  exact (wGX12_sum hm _ _ _ h)
theorem wfX12_one {m : Nat} {σ0 : S2} (hm : 1 ||| m = m) (σ : S2) (h : Fr gM m σ0 σ) : FrP gM m σ0 (fX12_one σ) := by
  unfold fX12_one
  exact (wGX12_sum hm _ _ _ h)
theorem wfX12_reads_338 {m : Nat} {σ0 : S2} (hm : 513 ||| m = m) (σ : S2) (h : Fr gM m σ0 σ) : FrP gM m σ0 (fX12_reads_338 σ) := by
  unfold fX12_reads_338
  exact frp_s h
theorem wfX12_reads_311 {m : Nat} {σ0 : S2} (hm : 513 ||| m = m) (k45 : S2 → Int32 → Int32 → Int32 → Option (Int32 × S2)) (hk45 : ∀ (y0 : S2) (y1 : Int32) (y2 : Int32) (y3 : Int32), Fr gM m σ0 y0 → FrP gM m σ0 (k45 y0 y1 y2 y3)) (σ : S2) (x1 : Int32) (x2 : Int32) (x3 : Int32) (s0 : Int32) (s1 : Int32) (h : Fr gM m σ0 σ) : FrP gM m σ0 (fX12_reads_311 k45 σ x1 x2 x3 s0 s1) := by
  unfold fX12_reads_311
  refine frp_w (Fr.wI h (tb_of (g := 0) hm rfl)) (fun σ1 h1 => ?_)
  exact (hk45 _ _ _ _ h1)
theorem wfX12_reads_296 {m : Nat} {σ0 : S2} (hm : 513 ||| m = m) (k45 : S2 → Int32 → Int32 → Int32 → Option (Int32 × S2)) (hk45 : ∀ (y0 : S2) (y1 : Int32) (y2 : Int32) (y3 : Int32), Fr gM m σ0 y0 → FrP gM m σ0 (k45 y0 y1 y2 y3)) (σ : S2) (x1 : Int32) (x2 : Int32) (s0 : Int32) (h : Fr gM m σ0 σ) : FrP gM m σ0 (fX12_reads_296 k45 σ x1 x2 s0) := by
  unfold fX12_reads_296
  refine frp_if ?_ ?_
  · skip
    exact (wfX12_reads_311 hm _ hk45 _ _ _ _ _ _ h)
  · skip
    exact (wfX12_reads_311 hm _ hk45 _ _ _ _ _ _ h)
theorem wfX12_reads_295 {m : Nat} {σ0 : S2} (hm : 513 ||| m = m) (k45 : S2 → Int32 → Int32 → Int32 → Option (Int32 × S2)) (hk45 : ∀ (y0 : S2) (y1 : Int32) (y2 : Int32) (y3 : Int32), Fr gM m σ0 y0 → FrP gM m σ0 (k45 y0 y1 y2 y3)) (σ : S2) (x1 : Int32) (x2 : Int32) (h : Fr gM m σ0 σ) : FrP gM m σ0 (fX12_reads_295 k45 σ x1 x2) := by
  unfold fX12_reads_295
  exact (wfX12_reads_296 hm _ hk45 _ _ _ _ h)
theorem wfX12_reads_275 {m : Nat} {σ0 : S2} (hm : 513 ||| m = m) (k45 : S2 → Int32 → Int32 → Int32 → Option (Int32 × S2)) (hk45 : ∀ (y0 : S2) (y1 : Int32) (y2 : Int32) (y3 : Int32), Fr gM m σ0 y0 → FrP gM m σ0 (k45 y0 y1 y2 y3)) (σ : S2) (x1 : Int32) (x2 : Int32) (h : Fr gM m σ0 σ) : FrP gM m σ0 (fX12_reads_275 k45 σ x1 x2) := by
  unfold fX12_reads_275
  refine frp_if ?_ ?_
  · skip
    refine frp_bi (fun r2 => ?_)
    refine frp_if ?_ ?_
    · skip
      exact (wfX12_reads_296 hm _ hk45 _ _ _ _ h)
    · skip
      exact (wfX12_reads_295 hm _ hk45 _ _ _ h)
  · skip
    exact (wfX12_reads_295 hm _ hk45 _ _ _ h)
theorem wfX12_reads_274 {m : Nat} {σ0 : S2} (hm : 513 ||| m = m) (k45 : S2 → Int32 → Int32 → Int32 → Option (Int32 × S2)) (hk45 : ∀ (y0 : S2) (y1 : Int32) (y2 : Int32) (y3 : Int32), Fr gM m σ0 y0 → FrP gM m σ0 (k45 y0 y1 y2 y3)) (σ : S2) (x1 : Int32) (x2 : Int32) (s0 : Int32) (s1 : Int32) (h : Fr gM m σ0 σ) : FrP gM m σ0 (fX12_reads_274 k45 σ x1 x2 s0 s1) := by
  unfold fX12_reads_274
  refine frp_ck (fun b1 => ?_)
  refine frp_w (Fr.wI h (tb_of (g := 9) hm rfl)) (fun σ4 h2 => ?_)
  exact (wfX12_reads_275 hm _ hk45 _ _ _ h2)
theorem wfX12_reads_251 {m : Nat} {σ0 : S2} (hm : 513 ||| m = m) (k45 : S2 → Int32 → Int32 → Int32 → Option (Int32 × S2)) (hk45 : ∀ (y0 : S2) (y1 : Int32) (y2 : Int32) (y3 : Int32), Fr gM m σ0 y0 → FrP gM m σ0 (k45 y0 y1 y2 y3)) (σ : S2) (x1 : Int32) (x2 : Int32) (x5 : Int32) (x6 : Int32) (s0 : Int32) (s1 : Int32) (h : Fr gM m σ0 σ) : FrP gM m σ0 (fX12_reads_251 k45 σ x1 x2 x5 x6 s0 s1) := by
  unfold fX12_reads_251
  refine frp_ck (fun b1 => ?_)
  refine frp_w (Fr.wI h (tb_of (g := 9) hm rfl)) (fun σ5 h2 => ?_)
  refine frp_if ?_ ?_
  · skip
    exact (wfX12_reads_274 hm _ hk45 _ _ _ _ _ h2)
  · skip
    refine frp_ck (fun b3 => ?_)
    refine frp_nm (fun v6 => ?_)
    exact (wfX12_reads_274 hm _ hk45 _ _ _ _ _ h2)
theorem wfX12_reads_206 {m : Nat} {σ0 : S2} (hm : 513 ||| m = m) (k45 : S2 → Int32 → Int32 → Int32 → Option (Int32 × S2)) (hk45 : ∀ (y0 : S2) (y1 : Int32) (y2 : Int32) (y3 : Int32), Fr gM m σ0 y0 → FrP gM m σ0 (k45 y0 y1 y2 y3)) (σ : S2) (x1 : Int32) (x2 : Int32) (s0 : Int32) (s1 : Int32) (h : Fr gM m σ0 σ) : FrP gM m σ0 (fX12_reads_206 k45 σ x1 x2 s0 s1) := by
  unfold fX12_reads_206
  refine frp_w (Fr.wI h (tb_of (g := 0) hm rfl)) (fun σ7 h1 => ?_)
  exact (wfX12_reads_275 hm _ hk45 _ _ _ h1)
theorem wfX12_reads_188 {m : Nat} {σ0 : S2} (hm : 513 ||| m = m) (k45 : S2 → Int32 → Int32 → Int32 → Option (Int32 × S2)) (hk45 : ∀ (y0 : S2) (y1 : Int32) (y2 : Int32) (y3 : Int32), Fr gM m σ0 y0 → FrP gM m σ0 (k45 y0 y1 y2 y3)) (σ : S2) (x1 : Int32) (x2 : Int32) (s0 : Int32) (s1 : Int32) (h : Fr gM m σ0 σ) : FrP gM m σ0 (fX12_reads_188 k45 σ x1 x2 s0 s1) := by
  unfold fX12_reads_188
  refine frp_ck (fun b1 => ?_)
  refine frp_w (Fr.wI h (tb_of (g := 9) hm rfl)) (fun σ8 h2 => ?_)
  refine frp_if ?_ ?_
  · skip
    exact (wfX12_reads_206 hm _ hk45 _ _ _ _ _ h2)
  · skip
    exact (wfX12_reads_206 hm _ hk45 _ _ _ _ _ h2)
theorem wfX12_reads_162 {m : Nat} {σ0 : S2} (hm : 513 ||| m = m) (k45 : S2 → Int32 → Int32 → Int32 → Option (Int32 × S2)) (hk45 : ∀ (y0 : S2) (y1 : Int32) (y2 : Int32) (y3 : Int32), Fr gM m σ0 y0 → FrP gM m σ0 (k45 y0 y1 y2 y3)) (σ : S2) (x1 : Int32) (x2 : Int32) (s0 : Int32) (h : Fr gM m σ0 σ) : FrP gM m σ0 (fX12_reads_162 k45 σ x1 x2 s0) := by
  unfold fX12_reads_162
  refine frp_zf ?_
  refine frp_w (Fr.wI h (tb_of (g := 0) hm rfl)) (fun σ9 h1 => ?_)
  refine frp_if ?_ ?_
  · skip
    refine frp_bi (fun r11 => ?_)
    exact (wfX12_reads_188 hm _ hk45 _ _ _ _ _ h1)
  · skip
    exact (wfX12_reads_188 hm _ hk45 _ _ _ _ _ h1)
theorem wfX12_reads_157 {m : Nat} {σ0 : S2} (hm : 513 ||| m = m) (k45 : S2 → Int32 → Int32 → Int32 → Option (Int32 × S2)) (hk45 : ∀ (y0 : S2) (y1 : Int32) (y2 : Int32) (y3 : Int32), Fr gM m σ0 y0 → FrP gM m σ0 (k45 y0 y1 y2 y3)) (σ : S2) (x1 : Int32) (x2 : Int32) (h : Fr gM m σ0 σ) : FrP gM m σ0 (fX12_reads_157 k45 σ x1 x2) := by
  unfold fX12_reads_157
  exact (wfX12_reads_162 hm _ hk45 _ _ _ _ h)
theorem wfX12_reads_109 {m : Nat} {σ0 : S2} (hm : 513 ||| m = m) (k45 : S2 → Int32 → Int32 → Int32 → Option (Int32 × S2)) (hk45 : ∀ (y0 : S2) (y1 : Int32) (y2 : Int32) (y3 : Int32), Fr gM m σ0 y0 → FrP gM m σ0 (k45 y0 y1 y2 y3)) (σ : S2) (x1 : Int32) (x2 : Int32) (x4 : Int32) (x5 : Int32) (s0 : Int32) (h : Fr gM m σ0 σ) : FrP gM m σ0 (fX12_reads_109 k45 σ x1 x2 x4 x5 s0) := by
  unfold fX12_reads_109
  refine frp_zf ?_
  refine frp_w (Fr.wI h (tb_of (g := 0) hm rfl)) (fun σ13 h1 => ?_)
  refine frp_nm (fun v15 => ?_)
  refine frp_bs (wfX12_eats (tb_sub (a := 513) rfl hm) _ _ h1) (fun r16 σ17 h2 => ?_)
  refine frp_bs (wfX12_eats (tb_sub (a := 513) rfl hm) _ _ h2) (fun r19 σ20 h3 => ?_)
  refine frp_if ?_ ?_
  · skip
    refine frp_if ?_ ?_
    · skip
      refine frp_bi (fun r28 => ?_)
      refine frp_bi (fun r30 => ?_)
      refine frp_if ?_ ?_
      · skip
        exact (wfX12_reads_157 hm _ hk45 _ _ _ h3)
      · skip
        exact (wfX12_reads_162 hm _ hk45 _ _ _ _ h3)
    · skip
      exact (wfX12_reads_157 hm _ hk45 _ _ _ h3)
  · skip
    refine frp_if ?_ ?_
    · skip
      refine frp_bs (wfX12_sum (tb_sub (a := 513) rfl hm) _ h3) (fun r22 σ23 h4 => ?_)
      refine frp_bi (fun r25 => ?_)
      refine frp_if ?_ ?_
      · skip
        exact (wfX12_reads_251 hm _ hk45 _ _ _ _ _ _ _ h4)
      · skip
        refine frp_ck (fun b5 => ?_)
        refine frp_nm (fun v27 => ?_)
        exact (wfX12_reads_251 hm _ hk45 _ _ _ _ _ _ _ h4)
    · skip
      exact (wfX12_reads_275 hm _ hk45 _ _ _ h3)
theorem wfX12_reads_104 {m : Nat} {σ0 : S2} (hm : 513 ||| m = m) (k45 : S2 → Int32 → Int32 → Int32 → Option (Int32 × S2)) (hk45 : ∀ (y0 : S2) (y1 : Int32) (y2 : Int32) (y3 : Int32), Fr gM m σ0 y0 → FrP gM m σ0 (k45 y0 y1 y2 y3)) (σ : S2) (x1 : Int32) (x2 : Int32) (x4 : Int32) (x5 : Int32) (h : Fr gM m σ0 σ) : FrP gM m σ0 (fX12_reads_104 k45 σ x1 x2 x4 x5) := by
  unfold fX12_reads_104
  exact (wfX12_reads_109 hm _ hk45 _ _ _ _ _ _ h)
theorem wfX12_reads_89 {m : Nat} {σ0 : S2} (hm : 513 ||| m = m) (k45 : S2 → Int32 → Int32 → Int32 → Option (Int32 × S2)) (hk45 : ∀ (y0 : S2) (y1 : Int32) (y2 : Int32) (y3 : Int32), Fr gM m σ0 y0 → FrP gM m σ0 (k45 y0 y1 y2 y3)) (σ : S2) (x1 : Int32) (x2 : Int32) (x4 : Int32) (s0 : Int32) (h : Fr gM m σ0 σ) : FrP gM m σ0 (fX12_reads_89 k45 σ x1 x2 x4 s0) := by
  unfold fX12_reads_89
  refine frp_if ?_ ?_
  · skip
    exact (wfX12_reads_104 hm _ hk45 _ _ _ _ _ h)
  · skip
    refine frp_if ?_ ?_
    · skip
      exact (wfX12_reads_109 hm _ hk45 _ _ _ _ _ _ h)
    · skip
      exact (wfX12_reads_104 hm _ hk45 _ _ _ _ _ h)
theorem wfX12_reads_45 {m : Nat} {σ0 : S2} (hm : 513 ||| m = m) : ∀ (n : Nat) (σ : S2) (x1 : Int32) (x2 : Int32) (x3 : Int32), Fr gM m σ0 σ → FrP gM m σ0 (fX12_reads_45 n σ x1 x2 x3) := by
  intro n
  induction n with
  | zero => intro σ x1 x2 x3 _; exact frp_n
  | succ n ih =>
    intro σ x1 x2 x3 h
    unfold fX12_reads_45
    refine frp_if ?_ ?_
    · skip
      refine frp_if ?_ ?_
      · skip
        refine frp_ck (fun b1 => ?_)
        refine frp_nm (fun v32 => ?_)
        refine frp_if ?_ ?_
        · skip
          exact frp_s h
        · skip
          exact (wfX12_reads_338 hm _ h)
      · skip
        exact (wfX12_reads_338 hm _ h)
    · skip
      refine frp_bi (fun r33 => ?_)
      refine frp_if ?_ ?_
      · skip
        exact (wfX12_reads_89 hm _ ih _ _ _ _ _ h)
      · skip
        refine frp_if ?_ ?_
        · skip
          exact (wfX12_reads_89 hm _ ih _ _ _ _ _ h)
        · skip
          refine frp_if ?_ ?_
          · skip
            exact (wfX12_reads_89 hm _ ih _ _ _ _ _ h)
          · skip
            exact (wfX12_reads_89 hm _ ih _ _ _ _ _ h)
theorem wfX12_reads_0 {m : Nat} {σ0 : S2} (hm : 513 ||| m = m) (σ : S2) (x1 : Int32) (h : Fr gM m σ0 σ) : FrP gM m σ0 (fX12_reads_0 σ x1) := by
  unfold fX12_reads_0
  refine frp_w (Fr.wI h (tb_of (g := 0) hm rfl)) (fun σ35 h1 => ?_)
  refine frp_w (Fr.wI h1 (tb_of (g := 0) hm rfl)) (fun σ36 h2 => ?_)
  refine frp_w (Fr.wI h2 (tb_of (g := 0) hm rfl)) (fun σ37 h3 => ?_)
  refine frp_w (Fr.wI h3 (tb_of (g := 0) hm rfl)) (fun σ38 h4 => ?_)
  refine frp_ck (fun b5 => ?_)
  refine frp_w (Fr.wI h4 (tb_of (g := 9) hm rfl)) (fun σ39 h6 => ?_)
  refine frp_ck (fun b7 => ?_)
  refine frp_w (Fr.wI h6 (tb_of (g := 9) hm rfl)) (fun σ40 h8 => ?_)
  refine frp_ck (fun b9 => ?_)
  refine frp_w (Fr.wI h8 (tb_of (g := 9) hm rfl)) (fun σ41 h10 => ?_)
  exact (wfX12_reads_45 hm _ _ _ _ _ h10)
theorem wfX12_reads {m : Nat} {σ0 : S2} (hm : 513 ||| m = m) (σ : S2) (a1 : Int32) (h : Fr gM m σ0 σ) : FrP gM m σ0 (fX12_reads σ a1) := by
  unfold fX12_reads
  exact (wfX12_reads_0 hm _ _ h)
theorem wfX12_numbers_145 {m : Nat} {σ0 : S2} (hm : 1 ||| m = m) (k24 : S2 → Int32 → Int32 → Int32 → Option (Unit × S2)) (hk24 : ∀ (y0 : S2) (y1 : Int32) (y2 : Int32) (y3 : Int32), Fr gM m σ0 y0 → FrP gM m σ0 (k24 y0 y1 y2 y3)) (σ : S2) (x1 : Int32) (x2 : Int32) (x3 : Int32) (h : Fr gM m σ0 σ) : FrP gM m σ0 (fX12_numbers_145 k24 σ x1 x2 x3) := by
  unfold fX12_numbers_145
  refine frp_nm (fun v1 => ?_)
  exact (hk24 _ _ _ _ h)
theorem wfX12_numbers_142 {m : Nat} {σ0 : S2} (hm : 1 ||| m = m) (k24 : S2 → Int32 → Int32 → Int32 → Option (Unit × S2)) (hk24 : ∀ (y0 : S2) (y1 : Int32) (y2 : Int32) (y3 : Int32), Fr gM m σ0 y0 → FrP gM m σ0 (k24 y0 y1 y2 y3)) (σ : S2) (x1 : Int32) (x2 : Int32) (x3 : Int32) (s0 : Int32) (h : Fr gM m σ0 σ) : FrP gM m σ0 (fX12_numbers_142 k24 σ x1 x2 x3 s0) := by
  unfold fX12_numbers_142
  refine frp_w (Fr.wI h (tb_of (g := 0) hm rfl)) (fun σ2 h1 => ?_)
  exact (wfX12_numbers_145 hm _ hk24 _ _ _ _ h1)
theorem wfX12_numbers_92 {m : Nat} {σ0 : S2} (hm : 1 ||| m = m) (k24 : S2 → Int32 → Int32 → Int32 → Option (Unit × S2)) (hk24 : ∀ (y0 : S2) (y1 : Int32) (y2 : Int32) (y3 : Int32), Fr gM m σ0 y0 → FrP gM m σ0 (k24 y0 y1 y2 y3)) (σ : S2) (x1 : Int32) (x2 : Int32) (x3 : Int32) (x4 : Int32) (s0 : Int32) (s1 : Int32) (h : Fr gM m σ0 σ) : FrP gM m σ0 (fX12_numbers_92 k24 σ x1 x2 x3 x4 s0 s1) := by
  unfold fX12_numbers_92
  refine frp_w (Fr.wI h (tb_of (g := 0) hm rfl)) (fun σ3 h1 => ?_)
  refine frp_ck (fun b2 => ?_)
  refine frp_nm (fun v4 => ?_)
  refine frp_nm (fun v5 => ?_)
  refine frp_w (Fr.wI h1 (tb_of (g := 0) hm rfl)) (fun σ6 h3 => ?_)
  refine frp_if ?_ ?_
  · skip
    exact (wfX12_numbers_142 hm _ hk24 _ _ _ _ _ h3)
  · skip
    exact (wfX12_numbers_142 hm _ hk24 _ _ _ _ _ h3)
theorem wfX12_numbers_24 {m : Nat} {σ0 : S2} (hm : 1 ||| m = m) : ∀ (n : Nat) (σ : S2) (x1 : Int32) (x2 : Int32) (x3 : Int32), Fr gM m σ0 σ → FrP gM m σ0 (fX12_numbers_24 n σ x1 x2 x3) := by
  intro n
  induction n with
  | zero => intro σ x1 x2 x3 _; exact frp_n
  | succ n ih =>
    intro σ x1 x2 x3 h
    unfold fX12_numbers_24
    refine frp_if ?_ ?_
    · skip
      exact frp_s h
    · skip
      refine frp_bi (fun r7 => ?_)
      refine frp_if ?_ ?_
      · skip
        exact (wfX12_numbers_145 hm _ ih _ _ _ _ h)
      · skip
        refine frp_ck (fun b1 => ?_)
        refine frp_nm (fun v9 => ?_)
        refine frp_w (Fr.wI h (tb_of (g := 0) hm rfl)) (fun σ10 h2 => ?_)
        refine frp_ck (fun b3 => ?_)
        refine frp_nm (fun v11 => ?_)
        refine frp_if ?_ ?_
        · skip
          exact (wfX12_numbers_92 hm _ ih _ _ _ _ _ _ _ h2)
        · skip
          exact (wfX12_numbers_92 hm _ ih _ _ _ _ _ _ _ h2)
theorem wfX12_numbers_0 {m : Nat} {σ0 : S2} (hm : 1 ||| m = m) (σ : S2) (x1 : Int32) (h : Fr gM m σ0 σ) : FrP gM m σ0 (fX12_numbers_0 σ x1) := by
  unfold fX12_numbers_0
  refine frp_w (Fr.wI h (tb_of (g := 0) hm rfl)) (fun σ12 h1 => ?_)
  refine frp_w (Fr.wI h1 (tb_of (g := 0) hm rfl)) (fun σ13 h2 => ?_)
  refine frp_w (Fr.wI h2 (tb_of (g := 0) hm rfl)) (fun σ14 h3 => ?_)
  refine frp_w (Fr.wI h3 (tb_of (g := 0) hm rfl)) (fun σ15 h4 => ?_)
  exact (wfX12_numbers_24 hm _ _ _ _ _ h4)
theorem wfX12_numbers {m : Nat} {σ0 : S2} (hm : 1 ||| m = m) (σ : S2) (a1 : Int32) (h : Fr gM m σ0 σ) : FrP gM m σ0 (fX12_numbers σ a1) := by
  unfold fX12_numbers
  exact (wfX12_numbers_0 hm _ _ h)
theorem wfX12_sits_95 {m : Nat} {σ0 : S2} (hm : 512 ||| m = m) (k75 : S2 → Int32 → Int32 → Int32 → Int32 → Option (Unit × S2)) (hk75 : ∀ (y0 : S2) (y1 : Int32) (y2 : Int32) (y3 : Int32) (y4 : Int32), Fr gM m σ0 y0 → FrP gM m σ0 (k75 y0 y1 y2 y3 y4)) : ∀ (n : Nat) (σ : S2) (x1 : Int32) (x2 : Int32) (x3 : Int32) (x4 : Int32) (x5 : Int32), Fr gM m σ0 σ → FrP gM m σ0 (fX12_sits_95 k75 n σ x1 x2 x3 x4 x5) := by
  intro n
  induction n with
  | zero => intro σ x1 x2 x3 x4 x5 _; exact frp_n
  | succ n ih =>
    intro σ x1 x2 x3 x4 x5 h
    unfold fX12_sits_95
    refine frp_ck (fun b1 => ?_)
    refine frp_nm (fun v1 => ?_)
    refine frp_if ?_ ?_
    · skip
      refine frp_ck (fun b2 => ?_)
      refine frp_w (Fr.wI h (tb_of (g := 9) hm rfl)) (fun σ2 h3 => ?_)
      refine frp_ck (fun b4 => ?_)
      refine frp_nm (fun v3 => ?_)
      refine frp_ck (fun b5 => ?_)
      refine frp_w (Fr.wI h3 (tb_of (g := 9) hm rfl)) (fun σ4 h6 => ?_)
      refine frp_nm (fun v5 => ?_)
      exact (hk75 _ _ _ _ _ h6)
    · skip
      refine frp_dz ?_
      refine frp_nm (fun v7 => ?_)
      exact (ih _ _ _ _ _ _ h)
theorem wfX12_sits_75 {m : Nat} {σ0 : S2} (hm : 512 ||| m = m) (k37 : S2 → Int32 → Int32 → Option (Unit × S2)) (hk37 : ∀ (y0 : S2) (y1 : Int32) (y2 : Int32), Fr gM m σ0 y0 → FrP gM m σ0 (k37 y0 y1 y2)) : ∀ (n : Nat) (σ : S2) (x1 : Int32) (x2 : Int32) (x3 : Int32) (x4 : Int32), Fr gM m σ0 σ → FrP gM m σ0 (fX12_sits_75 k37 n σ x1 x2 x3 x4) := by
  intro n
  induction n with
  | zero => intro σ x1 x2 x3 x4 _; exact frp_n
  | succ n ih =>
    intro σ x1 x2 x3 x4 h
    unfold fX12_sits_75
    refine frp_if ?_ ?_
    · skip
      refine frp_nm (fun v8 => ?_)
      exact (hk37 _ _ _ h)
    · skip
      refine frp_ck (fun b1 => ?_)
      refine frp_nm (fun v9 => ?_)
      refine frp_bi (fun r10 => ?_)
      exact (wfX12_sits_95 hm _ ih _ _ _ _ _ _ _ h)
theorem wfX12_sits_71 {m : Nat} {σ0 : S2} (hm : 512 ||| m = m) (k37 : S2 → Int32 → Int32 → Option (Unit × S2)) (hk37 : ∀ (y0 : S2) (y1 : Int32) (y2 : Int32), Fr gM m σ0 y0 → FrP gM m σ0 (k37 y0 y1 y2)) (σ : S2) (x1 : Int32) (x2 : Int32) (s0 : Int32) (h : Fr gM m σ0 σ) : FrP gM m σ0 (fX12_sits_71 k37 σ x1 x2 s0) := by
  unfold fX12_sits_71
  exact (wfX12_sits_75 hm _ hk37 _ _ _ _ _ _ h)
theorem wfX12_sits_37 {m : Nat} {σ0 : S2} (hm : 512 ||| m = m) : ∀ (n : Nat) (σ : S2) (x1 : Int32) (x2 : Int32), Fr gM m σ0 σ → FrP gM m σ0 (fX12_sits_37 n σ x1 x2) := by
  intro n
  induction n with
  | zero => intro σ x1 x2 _; exact frp_n
  | succ n ih =>
    intro σ x1 x2 h
    unfold fX12_sits_37
    refine frp_if ?_ ?_
    · skip
      exact frp_s h
    · skip
      refine frp_bi (fun r12 => ?_)
      refine frp_if ?_ ?_
      · skip
        exact (wfX12_sits_71 hm _ ih _ _ _ _ h)
      · skip
        refine frp_ck (fun b1 => ?_)
        refine frp_nm (fun v14 => ?_)
        exact (wfX12_sits_71 hm _ ih _ _ _ _ h)
theorem wfX12_sits_2 {m : Nat} {σ0 : S2} (hm : 512 ||| m = m) : ∀ (n : Nat) (σ : S2) (x1 : Int32) (x2 : Int32), Fr gM m σ0 σ → FrP gM m σ0 (fX12_sits_2 n σ x1 x2) := by
  intro n
  induction n with
  | zero => intro σ x1 x2 _; exact frp_n
  | succ n ih =>
    intro σ x1 x2 h
    unfold fX12_sits_2
    refine frp_if ?_ ?_
    · skip
      refine frp_ck (fun b1 => ?_)
      refine frp_w (Fr.wI h (tb_of (g := 9) hm rfl)) (fun σ15 h2 => ?_)
      exact (wfX12_sits_37 hm _ _ _ _ h2)
    · skip
      refine frp_ck (fun b3 => ?_)
      refine frp_w (Fr.wI h (tb_of (g := 9) hm rfl)) (fun σ16 h4 => ?_)
      refine frp_nm (fun v17 => ?_)
      exact (ih _ _ _ h4)
theorem wfX12_sits_0 {m : Nat} {σ0 : S2} (hm : 512 ||| m = m) (σ : S2) (x1 : Int32) (h : Fr gM m σ0 σ) : FrP gM m σ0 (fX12_sits_0 σ x1) := by
  unfold fX12_sits_0
  exact (wfX12_sits_2 hm _ _ _ _ h)
theorem wfX12_sits {m : Nat} {σ0 : S2} (hm : 512 ||| m = m) (σ : S2) (a1 : Int32) (h : Fr gM m σ0 σ) : FrP gM m σ0 (fX12_sits σ a1) := by
  unfold fX12_sits
  exact (wfX12_sits_0 hm _ _ h)
theorem wfX12_table_115 {m : Nat} {σ0 : S2} (hm : 16777731 ||| m = m) : ∀ (n : Nat) (σ : S2) (x3 : Int32) (x4 : Int32), Fr gM m σ0 σ → FrP gM m σ0 (fX12_table_115 n σ x3 x4) := by
  intro n
  induction n with
  | zero => intro σ x3 x4 _; exact frp_n
  | succ n ih =>
    intro σ x3 x4 h
    unfold fX12_table_115
    refine frp_if ?_ ?_
    · skip
      refine frp_w (Fr.wI h (tb_of (g := 1) hm rfl)) (fun σ1 h1 => ?_)
      refine frp_bs (wfX12_numbers (tb_sub (a := 16777731) rfl hm) _ _ h1) (fun r2 σ3 h2 => ?_)
      refine frp_bs (wfX12_reads (tb_sub (a := 16777731) rfl hm) _ _ h2) (fun r5 σ6 h3 => ?_)
      refine frp_if ?_ ?_
      · skip
        refine frp_bs (wfX12_sits (tb_sub (a := 16777731) rfl hm) _ _ h3) (fun r8 σ9 h4 => ?_)
        refine frp_w (Fr.wI h4 (tb_of (g := 24) hm rfl)) (fun σ11 h5 => ?_)
        exact frp_s h5
      · skip
        exact frp_s h3
    · skip
      refine frp_ck (fun b6 => ?_)
      refine frp_nm (fun v12 => ?_)
      refine frp_ck (fun b7 => ?_)
      refine frp_w (Fr.wI h (tb_of (g := 9) hm rfl)) (fun σ13 h8 => ?_)
      refine frp_nm (fun v14 => ?_)
      exact (ih _ _ _ h8)
theorem wfX12_table_50 {m : Nat} {σ0 : S2} (hm : 16777731 ||| m = m) : ∀ (n : Nat) (σ : S2) (x3 : Int32) (x4 : Int32), Fr gM m σ0 σ → FrP gM m σ0 (fX12_table_50 n σ x3 x4) := by
  intro n
  induction n with
  | zero => intro σ x3 x4 _; exact frp_n
  | succ n ih =>
    intro σ x3 x4 h
    unfold fX12_table_50
    refine frp_if ?_ ?_
    · skip
      refine frp_ck (fun b1 => ?_)
      refine frp_w (Fr.wI h (tb_of (g := 9) hm rfl)) (fun σ15 h2 => ?_)
      exact (wfX12_table_115 hm _ _ _ _ h2)
    · skip
      refine frp_bi (fun r16 => ?_)
      refine frp_ck (fun b3 => ?_)
      refine frp_w (Fr.wI h (tb_of (g := 9) hm rfl)) (fun σ18 h4 => ?_)
      refine frp_ck (fun b5 => ?_)
      refine frp_nm (fun v19 => ?_)
      refine frp_ck (fun b6 => ?_)
      refine frp_w (Fr.wI h4 (tb_of (g := 9) hm rfl)) (fun σ20 h7 => ?_)
      refine frp_nm (fun v21 => ?_)
      exact (ih _ _ _ h7)
theorem wfX12_table_0 {m : Nat} {σ0 : S2} (hm : 16777731 ||| m = m) (σ : S2) (x1 : Int32) (x2 : Int32) (h : Fr gM m σ0 σ) : FrP gM m σ0 (fX12_table_0 σ x1 x2) := by
  unfold fX12_table_0
  refine frp_if ?_ ?_
  · skip
    exact frp_s h
  · skip
    refine frp_if ?_ ?_
    · skip
      refine frp_if ?_ ?_
      · skip
        exact frp_s h
      · skip
        refine frp_nm (fun v22 => ?_)
        refine frp_ck (fun b1 => ?_)
        refine frp_w (Fr.wI h (tb_of (g := 9) hm rfl)) (fun σ23 h2 => ?_)
        refine frp_ck (fun b3 => ?_)
        refine frp_w (Fr.wI h2 (tb_of (g := 9) hm rfl)) (fun σ24 h4 => ?_)
        exact (wfX12_table_50 hm _ _ _ _ h4)
    · skip
      exact frp_s h
theorem wfX12_table {m : Nat} {σ0 : S2} (hm : 16777731 ||| m = m) (σ : S2) (a1 : Int32) (a2 : Int32) (h : Fr gM m σ0 σ) : FrP gM m σ0 (fX12_table σ a1 a2) := by
  unfold fX12_table
  exact (wfX12_table_0 hm _ _ _ h)
theorem wfX12_pickNext_41 {m : Nat} {σ0 : S2} (hm : 1 ||| m = m) (k3 : S2 → Int32 → Int32 → Int32 → Option (Unit × S2)) (hk3 : ∀ (y0 : S2) (y1 : Int32) (y2 : Int32) (y3 : Int32), Fr gM m σ0 y0 → FrP gM m σ0 (k3 y0 y1 y2 y3)) (σ : S2) (x1 : Int32) (x3 : Int32) (x4 : Int32) (h : Fr gM m σ0 σ) : FrP gM m σ0 (fX12_pickNext_41 k3 σ x1 x3 x4) := by
  unfold fX12_pickNext_41
  refine frp_dz ?_
  refine frp_nm (fun v2 => ?_)
  exact (hk3 _ _ _ _ h)
theorem wfX12_pickNext_3 {m : Nat} {σ0 : S2} (hm : 1 ||| m = m) : ∀ (n : Nat) (σ : S2) (x1 : Int32) (x3 : Int32) (x4 : Int32), Fr gM m σ0 σ → FrP gM m σ0 (fX12_pickNext_3 n σ x1 x3 x4) := by
  intro n
  induction n with
  | zero => intro σ x1 x3 x4 _; exact frp_n
  | succ n ih =>
    intro σ x1 x3 x4 h
    unfold fX12_pickNext_3
    refine frp_ck (fun b1 => ?_)
    refine frp_nm (fun v3 => ?_)
    refine frp_if ?_ ?_
    · skip
      exact (wfX12_pickNext_41 hm _ ih _ _ _ _ h)
    · skip
      refine frp_ck (fun b2 => ?_)
      refine frp_nm (fun v4 => ?_)
      refine frp_if ?_ ?_
      · skip
        exact (wfX12_pickNext_41 hm _ ih _ _ _ _ h)
      · skip
        refine frp_ck (fun b3 => ?_)
        refine frp_nm (fun v5 => ?_)
        refine frp_ck (fun b4 => ?_)
        refine frp_w (Fr.wI h (tb_of (g := 0) hm rfl)) (fun σ6 h5 => ?_)
        refine frp_w (Fr.wI h5 (tb_of (g := 0) hm rfl)) (fun σ7 h6 => ?_)
        exact frp_s h6
theorem wfX12_pickNext_0 {m : Nat} {σ0 : S2} (hm : 1 ||| m = m) (σ : S2) (x1 : Int32) (x2 : Int32) (x3 : Int32) (h : Fr gM m σ0 σ) : FrP gM m σ0 (fX12_pickNext_0 σ x1 x2 x3) := by
  unfold fX12_pickNext_0
  exact (wfX12_pickNext_3 hm _ _ _ _ _ h)
theorem wfX12_pickNext {m : Nat} {σ0 : S2} (hm : 1 ||| m = m) (σ : S2) (a1 : Int32) (a2 : Int32) (a3 : Int32) (h : Fr gM m σ0 σ) : FrP gM m σ0 (fX12_pickNext σ a1 a2 a3) := by
  unfold fX12_pickNext
  exact (wfX12_pickNext_0 hm _ _ _ _ h)
theorem wfX12_pickBest_85 {m : Nat} {σ0 : S2} (hm : 1 ||| m = m) (k9 : S2 → Int32 → Int32 → Int32 → Int32 → Int32 → Int32 → Option (Unit × S2)) (hk9 : ∀ (y0 : S2) (y1 : Int32) (y2 : Int32) (y3 : Int32) (y4 : Int32) (y5 : Int32) (y6 : Int32), Fr gM m σ0 y0 → FrP gM m σ0 (k9 y0 y1 y2 y3 y4 y5 y6)) (σ : S2) (x1 : Int32) (x2 : Int32) (x3 : Int32) (x4 : Int32) (x5 : Int32) (x6 : Int32) (h : Fr gM m σ0 σ) : FrP gM m σ0 (fX12_pickBest_85 k9 σ x1 x2 x3 x4 x5 x6) := by
  unfold fX12_pickBest_85
  refine frp_nm (fun v1 => ?_)
  exact (hk9 _ _ _ _ _ _ _ h)
theorem wfX12_pickBest_77 {m : Nat} {σ0 : S2} (hm : 1 ||| m = m) (k9 : S2 → Int32 → Int32 → Int32 → Int32 → Int32 → Int32 → Option (Unit × S2)) (hk9 : ∀ (y0 : S2) (y1 : Int32) (y2 : Int32) (y3 : Int32) (y4 : Int32) (y5 : Int32) (y6 : Int32), Fr gM m σ0 y0 → FrP gM m σ0 (k9 y0 y1 y2 y3 y4 y5 y6)) (σ : S2) (x1 : Int32) (x2 : Int32) (x3 : Int32) (x6 : Int32) (x7 : Int32) (h : Fr gM m σ0 σ) : FrP gM m σ0 (fX12_pickBest_77 k9 σ x1 x2 x3 x6 x7) := by
  unfold fX12_pickBest_77
  exact (wfX12_pickBest_85 hm _ hk9 _ _ _ _ _ _ _ h)
theorem wfX12_pickBest_9 {m : Nat} {σ0 : S2} (hm : 1 ||| m = m) : ∀ (n : Nat) (σ : S2) (x1 : Int32) (x2 : Int32) (x3 : Int32) (x4 : Int32) (x5 : Int32) (x6 : Int32), Fr gM m σ0 σ → FrP gM m σ0 (fX12_pickBest_9 n σ x1 x2 x3 x4 x5 x6) := by
  intro n
  induction n with
  | zero => intro σ x1 x2 x3 x4 x5 x6 _; exact frp_n
  | succ n ih =>
    intro σ x1 x2 x3 x4 x5 x6 h
    unfold fX12_pickBest_9
    refine frp_if ?_ ?_
    · skip
      refine frp_ck (fun b1 => ?_)
      refine frp_w (Fr.wI h (tb_of (g := 0) hm rfl)) (fun σ2 h2 => ?_)
      refine frp_w (Fr.wI h2 (tb_of (g := 0) hm rfl)) (fun σ3 h3 => ?_)
      exact frp_s h3
    · skip
      refine frp_ck (fun b4 => ?_)
      refine frp_nm (fun v4 => ?_)
      refine frp_bi (fun r5 => ?_)
      refine frp_ck (fun b5 => ?_)
      refine frp_nm (fun v7 => ?_)
      refine frp_nm (fun v8 => ?_)
      refine frp_bi (fun r9 => ?_)
      refine frp_if ?_ ?_
      · skip
        exact (wfX12_pickBest_85 hm _ ih _ _ _ _ _ _ _ h)
      · skip
        refine frp_if ?_ ?_
        · skip
          refine frp_if ?_ ?_
          · skip
            exact (wfX12_pickBest_77 hm _ ih _ _ _ _ _ _ h)
          · skip
            refine frp_if ?_ ?_
            · skip
              exact (wfX12_pickBest_85 hm _ ih _ _ _ _ _ _ _ h)
            · skip
              exact (wfX12_pickBest_77 hm _ ih _ _ _ _ _ _ h)
        · skip
          exact (wfX12_pickBest_85 hm _ ih _ _ _ _ _ _ _ h)
theorem wfX12_pickBest_0 {m : Nat} {σ0 : S2} (hm : 1 ||| m = m) (σ : S2) (x1 : Int32) (x2 : Int32) (x3 : Int32) (h : Fr gM m σ0 σ) : FrP gM m σ0 (fX12_pickBest_0 σ x1 x2 x3) := by
  unfold fX12_pickBest_0
  exact (wfX12_pickBest_9 hm _ _ _ _ _ _ _ _ h)
theorem wfX12_pickBest {m : Nat} {σ0 : S2} (hm : 1 ||| m = m) (σ : S2) (a1 : Int32) (a2 : Int32) (a3 : Int32) (h : Fr gM m σ0 σ) : FrP gM m σ0 (fX12_pickBest σ a1 a2 a3) := by
  unfold fX12_pickBest
  exact (wfX12_pickBest_0 hm _ _ _ _ h)
theorem wfX12_pick_75 {m : Nat} {σ0 : S2} (hm : 1 ||| m = m) (k10 : S2 → Int32 → Int32 → Int32 → Int32 → Option (Unit × S2)) (hk10 : ∀ (y0 : S2) (y1 : Int32) (y2 : Int32) (y3 : Int32) (y4 : Int32), Fr gM m σ0 y0 → FrP gM m σ0 (k10 y0 y1 y2 y3 y4)) (σ : S2) (x1 : Int32) (x2 : Int32) (x3 : Int32) (x4 : Int32) (h : Fr gM m σ0 σ) : FrP gM m σ0 (fX12_pick_75 k10 σ x1 x2 x3 x4) := by
  unfold fX12_pick_75
  refine frp_ck (fun b1 => ?_)
  refine frp_nm (fun v1 => ?_)
  refine frp_nm (fun v2 => ?_)
  exact (hk10 _ _ _ _ _ h)
theorem wfX12_pick_73 {m : Nat} {σ0 : S2} (hm : 1 ||| m = m) (k10 : S2 → Int32 → Int32 → Int32 → Int32 → Option (Unit × S2)) (hk10 : ∀ (y0 : S2) (y1 : Int32) (y2 : Int32) (y3 : Int32) (y4 : Int32), Fr gM m σ0 y0 → FrP gM m σ0 (k10 y0 y1 y2 y3 y4)) (σ : S2) (x1 : Int32) (x2 : Int32) (x3 : Int32) (s0 : Int32) (h : Fr gM m σ0 σ) : FrP gM m σ0 (fX12_pick_73 k10 σ x1 x2 x3 s0) := by
  unfold fX12_pick_73
  exact (wfX12_pick_75 hm _ hk10 _ _ _ _ _ h)
theorem wfX12_pick_10 {m : Nat} {σ0 : S2} (hm : 1 ||| m = m) : ∀ (n : Nat) (σ : S2) (x1 : Int32) (x2 : Int32) (x3 : Int32) (x4 : Int32), Fr gM m σ0 σ → FrP gM m σ0 (fX12_pick_10 n σ x1 x2 x3 x4) := by
  intro n
  induction n with
  | zero => intro σ x1 x2 x3 x4 _; exact frp_n
  | succ n ih =>
    intro σ x1 x2 x3 x4 h
    unfold fX12_pick_10
    refine frp_ck (fun b1 => ?_)
    refine frp_nm (fun v3 => ?_)
    refine frp_if ?_ ?_
    · skip
      exact frp_s h
    · skip
      refine frp_ck (fun b2 => ?_)
      refine frp_nm (fun v4 => ?_)
      refine frp_if ?_ ?_
      · skip
        refine frp_bs (wfX12_pickBest hm _ _ _ _ h) (fun r10 σ11 h3 => ?_)
        exact (wfX12_pick_75 hm _ ih _ _ _ _ _ h3)
      · skip
        refine frp_bs (wfX12_pickNext hm _ _ _ _ h) (fun r5 σ6 h4 => ?_)
        refine frp_ck (fun b5 => ?_)
        refine frp_nm (fun v8 => ?_)
        refine frp_if ?_ ?_
        · skip
          refine frp_dz ?_
          exact (wfX12_pick_73 hm _ ih _ _ _ _ _ h4)
        · skip
          exact (wfX12_pick_73 hm _ ih _ _ _ _ _ h4)
theorem wfX12_pick_0 {m : Nat} {σ0 : S2} (hm : 1 ||| m = m) (σ : S2) (x1 : Int32) (x2 : Int32) (h : Fr gM m σ0 σ) : FrP gM m σ0 (fX12_pick_0 σ x1 x2) := by
  unfold fX12_pick_0
  refine frp_w (Fr.wI h (tb_of (g := 0) hm rfl)) (fun σ13 h1 => ?_)
  exact (wfX12_pick_10 hm _ _ _ _ _ _ h1)
theorem wfX12_pick {m : Nat} {σ0 : S2} (hm : 1 ||| m = m) (σ : S2) (a1 : Int32) (a2 : Int32) (h : Fr gM m σ0 σ) : FrP gM m σ0 (fX12_pick σ a1 a2) := by
  unfold fX12_pick
  exact (wfX12_pick_0 hm _ _ _ h)
theorem wfX12_choose_146 {m : Nat} {σ0 : S2} (hm : 1 ||| m = m) (k21 : S2 → Int32 → Int32 → Int32 → Option (Unit × S2)) (hk21 : ∀ (y0 : S2) (y1 : Int32) (y2 : Int32) (y3 : Int32), Fr gM m σ0 y0 → FrP gM m σ0 (k21 y0 y1 y2 y3)) (σ : S2) (x1 : Int32) (x3 : Int32) (x4 : Int32) (h : Fr gM m σ0 σ) : FrP gM m σ0 (fX12_choose_146 k21 σ x1 x3 x4) := by
  unfold fX12_choose_146
  refine frp_nm (fun v1 => ?_)
  exact (hk21 _ _ _ _ h)
theorem wfX12_choose_142 {m : Nat} {σ0 : S2} (hm : 1 ||| m = m) (k21 : S2 → Int32 → Int32 → Int32 → Option (Unit × S2)) (hk21 : ∀ (y0 : S2) (y1 : Int32) (y2 : Int32) (y3 : Int32), Fr gM m σ0 y0 → FrP gM m σ0 (k21 y0 y1 y2 y3)) (σ : S2) (x1 : Int32) (x3 : Int32) (x4 : Int32) (s0 : Int32) (s1 : Int32) (h : Fr gM m σ0 σ) : FrP gM m σ0 (fX12_choose_142 k21 σ x1 x3 x4 s0 s1) := by
  unfold fX12_choose_142
  refine frp_w (Fr.wI h (tb_of (g := 0) hm rfl)) (fun σ2 h1 => ?_)
  exact (wfX12_choose_146 hm _ hk21 _ _ _ _ h1)
theorem wfX12_choose_141 {m : Nat} {σ0 : S2} (hm : 1 ||| m = m) (k21 : S2 → Int32 → Int32 → Int32 → Option (Unit × S2)) (hk21 : ∀ (y0 : S2) (y1 : Int32) (y2 : Int32) (y3 : Int32), Fr gM m σ0 y0 → FrP gM m σ0 (k21 y0 y1 y2 y3)) (σ : S2) (x1 : Int32) (x3 : Int32) (x4 : Int32) (s0 : Int32) (h : Fr gM m σ0 σ) : FrP gM m σ0 (fX12_choose_141 k21 σ x1 x3 x4 s0) := by
  unfold fX12_choose_141
  exact (wfX12_choose_142 hm _ hk21 _ _ _ _ _ _ h)
theorem wfX12_choose_85 {m : Nat} {σ0 : S2} (hm : 1 ||| m = m) (k21 : S2 → Int32 → Int32 → Int32 → Option (Unit × S2)) (hk21 : ∀ (y0 : S2) (y1 : Int32) (y2 : Int32) (y3 : Int32), Fr gM m σ0 y0 → FrP gM m σ0 (k21 y0 y1 y2 y3)) (σ : S2) (x1 : Int32) (x3 : Int32) (x4 : Int32) (x5 : Int32) (s0 : Int32) (h : Fr gM m σ0 σ) : FrP gM m σ0 (fX12_choose_85 k21 σ x1 x3 x4 x5 s0) := by
  unfold fX12_choose_85
  refine frp_if ?_ ?_
  · skip
    exact (wfX12_choose_146 hm _ hk21 _ _ _ _ h)
  · skip
    refine frp_ck (fun b1 => ?_)
    refine frp_nm (fun v3 => ?_)
    refine frp_ck (fun b2 => ?_)
    refine frp_w (Fr.wI h (tb_of (g := 0) hm rfl)) (fun σ4 h3 => ?_)
    refine frp_w (Fr.wI h3 (tb_of (g := 0) hm rfl)) (fun σ5 h4 => ?_)
    refine frp_if ?_ ?_
    · skip
      refine frp_bi (fun r6 => ?_)
      refine frp_if ?_ ?_
      · skip
        exact (wfX12_choose_142 hm _ hk21 _ _ _ _ _ _ h4)
      · skip
        exact (wfX12_choose_141 hm _ hk21 _ _ _ _ _ h4)
    · skip
      exact (wfX12_choose_141 hm _ hk21 _ _ _ _ _ h4)
theorem wfX12_choose_84 {m : Nat} {σ0 : S2} (hm : 1 ||| m = m) (k21 : S2 → Int32 → Int32 → Int32 → Option (Unit × S2)) (hk21 : ∀ (y0 : S2) (y1 : Int32) (y2 : Int32) (y3 : Int32), Fr gM m σ0 y0 → FrP gM m σ0 (k21 y0 y1 y2 y3)) (σ : S2) (x1 : Int32) (x3 : Int32) (x4 : Int32) (x5 : Int32) (h : Fr gM m σ0 σ) : FrP gM m σ0 (fX12_choose_84 k21 σ x1 x3 x4 x5) := by
  unfold fX12_choose_84
  exact (wfX12_choose_85 hm _ hk21 _ _ _ _ _ _ h)
theorem wfX12_choose_80 {m : Nat} {σ0 : S2} (hm : 1 ||| m = m) (k21 : S2 → Int32 → Int32 → Int32 → Option (Unit × S2)) (hk21 : ∀ (y0 : S2) (y1 : Int32) (y2 : Int32) (y3 : Int32), Fr gM m σ0 y0 → FrP gM m σ0 (k21 y0 y1 y2 y3)) (σ : S2) (x1 : Int32) (x3 : Int32) (x4 : Int32) (x5 : Int32) (h : Fr gM m σ0 σ) : FrP gM m σ0 (fX12_choose_80 k21 σ x1 x3 x4 x5) := by
  unfold fX12_choose_80
  exact (wfX12_choose_85 hm _ hk21 _ _ _ _ _ _ h)
theorem wfX12_choose_21 {m : Nat} {σ0 : S2} (hm : 1 ||| m = m) (k13 : S2 → Int32 → Int32 → Option (Unit × S2)) (hk13 : ∀ (y0 : S2) (y1 : Int32) (y2 : Int32), Fr gM m σ0 y0 → FrP gM m σ0 (k13 y0 y1 y2)) : ∀ (n : Nat) (σ : S2) (x1 : Int32) (x3 : Int32) (x4 : Int32), Fr gM m σ0 σ → FrP gM m σ0 (fX12_choose_21 k13 n σ x1 x3 x4) := by
  intro n
  induction n with
  | zero => intro σ x1 x3 x4 _; exact frp_n
  | succ n ih =>
    intro σ x1 x3 x4 h
    unfold fX12_choose_21
    refine frp_if ?_ ?_
    · skip
      refine frp_nm (fun v8 => ?_)
      exact (hk13 _ _ _ h)
    · skip
      refine frp_bi (fun r9 => ?_)
      refine frp_ck (fun b1 => ?_)
      refine frp_nm (fun v11 => ?_)
      refine frp_if ?_ ?_
      · skip
        exact (wfX12_choose_84 hm _ ih _ _ _ _ _ h)
      · skip
        refine frp_ck (fun b2 => ?_)
        refine frp_nm (fun v12 => ?_)
        refine frp_bi (fun r13 => ?_)
        refine frp_if ?_ ?_
        · skip
          refine frp_if ?_ ?_
          · skip
            exact (wfX12_choose_80 hm _ ih _ _ _ _ _ h)
          · skip
            refine frp_ck (fun b3 => ?_)
            refine frp_nm (fun v15 => ?_)
            refine frp_if ?_ ?_
            · skip
              exact (wfX12_choose_84 hm _ ih _ _ _ _ _ h)
            · skip
              exact (wfX12_choose_80 hm _ ih _ _ _ _ _ h)
        · skip
          exact (wfX12_choose_84 hm _ ih _ _ _ _ _ h)
theorem wfX12_choose_13 {m : Nat} {σ0 : S2} (hm : 1 ||| m = m) : ∀ (n : Nat) (σ : S2) (x1 : Int32) (x3 : Int32), Fr gM m σ0 σ → FrP gM m σ0 (fX12_choose_13 n σ x1 x3) := by
  intro n
  induction n with
  | zero => intro σ x1 x3 _; exact frp_n
  | succ n ih =>
    intro σ x1 x3 h
    unfold fX12_choose_13
    refine frp_if ?_ ?_
    · skip
      exact frp_s h
    · skip
      exact (wfX12_choose_21 hm _ ih _ _ _ _ _ h)
theorem wfX12_choose_0 {m : Nat} {σ0 : S2} (hm : 1 ||| m = m) (σ : S2) (x1 : Int32) (x2 : Int32) (h : Fr gM m σ0 σ) : FrP gM m σ0 (fX12_choose_0 σ x1 x2) := by
  unfold fX12_choose_0
  refine frp_bs (wfX12_pick hm _ _ _ h) (fun r16 σ17 h1 => ?_)
  refine frp_w (Fr.wI h1 (tb_of (g := 0) hm rfl)) (fun σ19 h2 => ?_)
  exact (wfX12_choose_13 hm _ _ _ _ h2)
theorem wfX12_choose {m : Nat} {σ0 : S2} (hm : 1 ||| m = m) (σ : S2) (a1 : Int32) (a2 : Int32) (h : Fr gM m σ0 σ) : FrP gM m σ0 (fX12_choose σ a1 a2) := by
  unfold fX12_choose
  exact (wfX12_choose_0 hm _ _ _ h)
theorem wfX12_chooseName_0 {m : Nat} {σ0 : S2} (hm : 1 ||| m = m) (σ : S2) (x1 : Int32) (x2 : Int32) (h : Fr gM m σ0 σ) : FrP gM m σ0 (fX12_chooseName_0 σ x1 x2) := by
  unfold fX12_chooseName_0
  refine frp_ck (fun b1 => ?_)
  refine frp_nm (fun v1 => ?_)
  refine frp_bi (fun r2 => ?_)
  refine frp_bs (wfX12_choose hm _ _ _ h) (fun r4 σ5 h2 => ?_)
  exact frp_s h2
theorem wfX12_chooseName {m : Nat} {σ0 : S2} (hm : 1 ||| m = m) (σ : S2) (a1 : Int32) (a2 : Int32) (h : Fr gM m σ0 σ) : FrP gM m σ0 (fX12_chooseName σ a1 a2) := by
  unfold fX12_chooseName
  exact (wfX12_chooseName_0 hm _ _ _ h)
theorem wfX12_picked_0 {m : Nat} {σ0 : S2} (hm : 1 ||| m = m) (σ : S2) (x1 : Int32) (x2 : Int32) (x3 : Int32) (h : Fr gM m σ0 σ) : FrP gM m σ0 (fX12_picked_0 σ x1 x2 x3) := by
  unfold fX12_picked_0
  refine frp_bi (fun r1 => ?_)
  refine frp_if ?_ ?_
  · skip
    exact frp_s h
  · skip
    refine frp_bi (fun r3 => ?_)
    refine frp_if ?_ ?_
    · skip
      exact frp_s h
    · skip
      refine frp_bs (wfX12_pick hm _ _ _ h) (fun r5 σ6 h1 => ?_)
      refine frp_bi (fun r8 => ?_)
      refine frp_if ?_ ?_
      · skip
        exact frp_s h1
      · skip
        refine frp_ck (fun b2 => ?_)
        refine frp_nm (fun v10 => ?_)
        exact frp_s h1
theorem wfX12_picked {m : Nat} {σ0 : S2} (hm : 1 ||| m = m) (σ : S2) (a1 : Int32) (a2 : Int32) (a3 : Int32) (h : Fr gM m σ0 σ) : FrP gM m σ0 (fX12_picked σ a1 a2 a3) := by
  unfold fX12_picked
  exact (wfX12_picked_0 hm _ _ _ _ h)
theorem wfX12_keeperOf_0 {m : Nat} {σ0 : S2} (hm : 1 ||| m = m) (σ : S2) (x1 : Int32) (x2 : Int32) (x3 : Int32) (h : Fr gM m σ0 σ) : FrP gM m σ0 (fX12_keeperOf_0 σ x1 x2 x3) := by
  unfold fX12_keeperOf_0
  refine frp_bi (fun r1 => ?_)
  refine frp_if ?_ ?_
  · skip
    exact frp_s h
  · skip
    refine frp_bi (fun r3 => ?_)
    refine frp_if ?_ ?_
    · skip
      exact frp_s h
    · skip
      refine frp_bs (wfX12_chooseName hm _ _ _ h) (fun r5 σ6 h1 => ?_)
      refine frp_if ?_ ?_
      · skip
        exact frp_s h1
      · skip
        refine frp_bi (fun r8 => ?_)
        refine frp_if ?_ ?_
        · skip
          exact frp_s h1
        · skip
          refine frp_ck (fun b2 => ?_)
          refine frp_nm (fun v10 => ?_)
          exact frp_s h1
theorem wfX12_keeperOf {m : Nat} {σ0 : S2} (hm : 1 ||| m = m) (σ : S2) (a1 : Int32) (a2 : Int32) (a3 : Int32) (h : Fr gM m σ0 σ) : FrP gM m σ0 (fX12_keeperOf σ a1 a2 a3) := by
  unfold fX12_keeperOf
  exact (wfX12_keeperOf_0 hm _ _ _ _ h)
theorem wfX12_tooFew_48 {m : Nat} {σ0 : S2} (hm : 1 ||| m = m) (k14 : S2 → Int32 → Int32 → Int32 → Option (Int32 × S2)) (hk14 : ∀ (y0 : S2) (y1 : Int32) (y2 : Int32) (y3 : Int32), Fr gM m σ0 y0 → FrP gM m σ0 (k14 y0 y1 y2 y3)) (σ : S2) (x1 : Int32) (x3 : Int32) (s0 : Int32) (s1 : Int32) (h : Fr gM m σ0 σ) : FrP gM m σ0 (fX12_tooFew_48 k14 σ x1 x3 s0 s1) := by
  unfold fX12_tooFew_48
  refine frp_nm (fun v1 => ?_)
  refine frp_nm (fun v2 => ?_)
  exact (hk14 _ _ _ _ h)
theorem wfX12_tooFew_14 {m : Nat} {σ0 : S2} (hm : 1 ||| m = m) : ∀ (n : Nat) (σ : S2) (x1 : Int32) (x2 : Int32) (x3 : Int32), Fr gM m σ0 σ → FrP gM m σ0 (fX12_tooFew_14 n σ x1 x2 x3) := by
  intro n
  induction n with
  | zero => intro σ x1 x2 x3 _; exact frp_n
  | succ n ih =>
    intro σ x1 x2 x3 h
    unfold fX12_tooFew_14
    refine frp_if ?_ ?_
    · skip
      exact frp_s h
    · skip
      refine frp_bs (wfX12_chooseName hm _ _ _ h) (fun r3 σ4 h1 => ?_)
      refine frp_bi (fun r6 => ?_)
      refine frp_ck (fun b2 => ?_)
      refine frp_nm (fun v8 => ?_)
      refine frp_if ?_ ?_
      · skip
        exact (wfX12_tooFew_48 hm _ ih _ _ _ _ _ h1)
      · skip
        exact (wfX12_tooFew_48 hm _ ih _ _ _ _ _ h1)
theorem wfX12_tooFew_0 {m : Nat} {σ0 : S2} (hm : 1 ||| m = m) (σ : S2) (x1 : Int32) (h : Fr gM m σ0 σ) : FrP gM m σ0 (fX12_tooFew_0 σ x1) := by
  unfold fX12_tooFew_0
  refine frp_bi (fun r9 => ?_)
  refine frp_if ?_ ?_
  · skip
    exact frp_s h
  · skip
    exact (wfX12_tooFew_14 hm _ _ _ _ _ h)
theorem wfX12_tooFew {m : Nat} {σ0 : S2} (hm : 1 ||| m = m) (σ : S2) (a1 : Int32) (h : Fr gM m σ0 σ) : FrP gM m σ0 (fX12_tooFew σ a1) := by
  unfold fX12_tooFew
  exact (wfX12_tooFew_0 hm _ _ h)
theorem wfX12_shareOf_47 {m : Nat} {σ0 : S2} (hm : 1 ||| m = m) (k5 : S2 → Int32 → Int32 → Int32 → Int32 → Option (Int32 × S2)) (hk5 : ∀ (y0 : S2) (y1 : Int32) (y2 : Int32) (y3 : Int32) (y4 : Int32), Fr gM m σ0 y0 → FrP gM m σ0 (k5 y0 y1 y2 y3 y4)) (σ : S2) (x1 : Int32) (x2 : Int32) (x4 : Int32) (s0 : Int32) (s1 : Int32) (h : Fr gM m σ0 σ) : FrP gM m σ0 (fX12_shareOf_47 k5 σ x1 x2 x4 s0 s1) := by
  unfold fX12_shareOf_47
  refine frp_nm (fun v1 => ?_)
  refine frp_nm (fun v2 => ?_)
  exact (hk5 _ _ _ _ _ h)
theorem wfX12_shareOf_5 {m : Nat} {σ0 : S2} (hm : 1 ||| m = m) : ∀ (n : Nat) (σ : S2) (x1 : Int32) (x2 : Int32) (x3 : Int32) (x4 : Int32), Fr gM m σ0 σ → FrP gM m σ0 (fX12_shareOf_5 n σ x1 x2 x3 x4) := by
  intro n
  induction n with
  | zero => intro σ x1 x2 x3 x4 _; exact frp_n
  | succ n ih =>
    intro σ x1 x2 x3 x4 h
    unfold fX12_shareOf_5
    refine frp_if ?_ ?_
    · skip
      exact frp_s h
    · skip
      refine frp_ck (fun b1 => ?_)
      refine frp_nm (fun v3 => ?_)
      refine frp_bi (fun r4 => ?_)
      refine frp_bs (wfX12_pick hm _ _ _ h) (fun r6 σ7 h2 => ?_)
      refine frp_ck (fun b3 => ?_)
      refine frp_nm (fun v9 => ?_)
      refine frp_if ?_ ?_
      · skip
        exact (wfX12_shareOf_47 hm _ ih _ _ _ _ _ _ h2)
      · skip
        exact (wfX12_shareOf_47 hm _ ih _ _ _ _ _ _ h2)
theorem wfX12_shareOf_0 {m : Nat} {σ0 : S2} (hm : 1 ||| m = m) (σ : S2) (x1 : Int32) (x2 : Int32) (h : Fr gM m σ0 σ) : FrP gM m σ0 (fX12_shareOf_0 σ x1 x2) := by
  unfold fX12_shareOf_0
  exact (wfX12_shareOf_5 hm _ _ _ _ _ _ h)
theorem wfX12_shareOf {m : Nat} {σ0 : S2} (hm : 1 ||| m = m) (σ : S2) (a1 : Int32) (a2 : Int32) (h : Fr gM m σ0 σ) : FrP gM m σ0 (fX12_shareOf σ a1 a2) := by
  unfold fX12_shareOf
  exact (wfX12_shareOf_0 hm _ _ _ h)
theorem wfX12_findOdds_23 {m : Nat} {σ0 : S2} (hm : 1 ||| m = m) : ∀ (n : Nat) (σ : S2) (x1 : Int32) (x2 : Int32), Fr gM m σ0 σ → FrP gM m σ0 (fX12_findOdds_23 n σ x1 x2) := by
  intro n
  induction n with
  | zero => intro σ x1 x2 _; exact frp_n
  | succ n ih =>
    intro σ x1 x2 h
    unfold fX12_findOdds_23
    refine frp_if ?_ ?_
    · skip
      exact frp_s h
    · skip
      refine frp_bs (wfX12_pick hm _ _ _ h) (fun r1 σ2 h1 => ?_)
      refine frp_ck (fun b2 => ?_)
      refine frp_nm (fun v4 => ?_)
      refine frp_ck (fun b3 => ?_)
      refine frp_nm (fun v5 => ?_)
      refine frp_ck (fun b4 => ?_)
      refine frp_w (Fr.wI h1 (tb_of (g := 0) hm rfl)) (fun σ6 h5 => ?_)
      refine frp_nm (fun v7 => ?_)
      exact (ih _ _ _ h5)
theorem wfX12_findOdds_2 {m : Nat} {σ0 : S2} (hm : 1 ||| m = m) : ∀ (n : Nat) (σ : S2) (x1 : Int32) (x2 : Int32), Fr gM m σ0 σ → FrP gM m σ0 (fX12_findOdds_2 n σ x1 x2) := by
  intro n
  induction n with
  | zero => intro σ x1 x2 _; exact frp_n
  | succ n ih =>
    intro σ x1 x2 h
    unfold fX12_findOdds_2
    refine frp_if ?_ ?_
    · skip
      exact (wfX12_findOdds_23 hm _ _ _ _ h)
    · skip
      refine frp_ck (fun b1 => ?_)
      refine frp_w (Fr.wI h (tb_of (g := 0) hm rfl)) (fun σ8 h2 => ?_)
      refine frp_nm (fun v9 => ?_)
      exact (ih _ _ _ h2)
theorem wfX12_findOdds_0 {m : Nat} {σ0 : S2} (hm : 1 ||| m = m) (σ : S2) (x1 : Int32) (h : Fr gM m σ0 σ) : FrP gM m σ0 (fX12_findOdds_0 σ x1) := by
  unfold fX12_findOdds_0
  exact (wfX12_findOdds_2 hm _ _ _ _ h)
theorem wfX12_findOdds {m : Nat} {σ0 : S2} (hm : 1 ||| m = m) (σ : S2) (a1 : Int32) (h : Fr gM m σ0 σ) : FrP gM m σ0 (fX12_findOdds σ a1) := by
  unfold fX12_findOdds
  exact (wfX12_findOdds_0 hm _ _ h)
theorem wfX12_share_0 {m : Nat} {σ0 : S2} (hm : 1 ||| m = m) (σ : S2) (x1 : Int32) (x2 : Int32) (x3 : Int32) (h : Fr gM m σ0 σ) : FrP gM m σ0 (fX12_share_0 σ x1 x2 x3) := by
  unfold fX12_share_0
  refine frp_bi (fun r1 => ?_)
  refine frp_if ?_ ?_
  · skip
    exact frp_s h
  · skip
    refine frp_bi (fun r3 => ?_)
    refine frp_if ?_ ?_
    · skip
      exact frp_s h
    · skip
      refine frp_bi (fun r5 => ?_)
      refine frp_if ?_ ?_
      · skip
        exact frp_s h
      · skip
        refine frp_if ?_ ?_
        · skip
          refine frp_bs (wfX12_shareOf hm _ _ _ h) (fun r11 σ12 h1 => ?_)
          exact frp_s h1
        · skip
          refine frp_bs (wfX12_findOdds hm _ _ h) (fun r7 σ8 h2 => ?_)
          refine frp_ck (fun b3 => ?_)
          refine frp_nm (fun v10 => ?_)
          exact frp_s h2
theorem wfX12_share {m : Nat} {σ0 : S2} (hm : 1 ||| m = m) (σ : S2) (a1 : Int32) (a2 : Int32) (a3 : Int32) (h : Fr gM m σ0 σ) : FrP gM m σ0 (fX12_share σ a1 a2 a3) := by
  unfold fX12_share
  exact (wfX12_share_0 hm _ _ _ _ h)
theorem wfX12_even_79 {m : Nat} {σ0 : S2} (hm : 1 ||| m = m) (k14 : S2 → Int32 → Int32 → Int32 → Int32 → Option (Int32 × S2)) (hk14 : ∀ (y0 : S2) (y1 : Int32) (y2 : Int32) (y3 : Int32) (y4 : Int32), Fr gM m σ0 y0 → FrP gM m σ0 (k14 y0 y1 y2 y3 y4)) (σ : S2) (x1 : Int32) (x2 : Int32) (x3 : Int32) (x4 : Int32) (h : Fr gM m σ0 σ) : FrP gM m σ0 (fX12_even_79 k14 σ x1 x2 x3 x4) := by
  unfold fX12_even_79
  refine frp_nm (fun v1 => ?_)
  exact (hk14 _ _ _ _ _ h)
theorem wfX12_even_78 {m : Nat} {σ0 : S2} (hm : 1 ||| m = m) (k14 : S2 → Int32 → Int32 → Int32 → Int32 → Option (Int32 × S2)) (hk14 : ∀ (y0 : S2) (y1 : Int32) (y2 : Int32) (y3 : Int32) (y4 : Int32), Fr gM m σ0 y0 → FrP gM m σ0 (k14 y0 y1 y2 y3 y4)) (σ : S2) (x1 : Int32) (x2 : Int32) (x4 : Int32) (s0 : Int32) (h : Fr gM m σ0 σ) : FrP gM m σ0 (fX12_even_78 k14 σ x1 x2 x4 s0) := by
  unfold fX12_even_78
  exact (wfX12_even_79 hm _ hk14 _ _ _ _ _ h)
theorem wfX12_even_55 {m : Nat} {σ0 : S2} (hm : 1 ||| m = m) (k14 : S2 → Int32 → Int32 → Int32 → Int32 → Option (Int32 × S2)) (hk14 : ∀ (y0 : S2) (y1 : Int32) (y2 : Int32) (y3 : Int32) (y4 : Int32), Fr gM m σ0 y0 → FrP gM m σ0 (k14 y0 y1 y2 y3 y4)) (σ : S2) (x1 : Int32) (x3 : Int32) (x4 : Int32) (s0 : Int32) (h : Fr gM m σ0 σ) : FrP gM m σ0 (fX12_even_55 k14 σ x1 x3 x4 s0) := by
  unfold fX12_even_55
  refine frp_ck (fun b1 => ?_)
  refine frp_nm (fun v2 => ?_)
  refine frp_if ?_ ?_
  · skip
    exact (wfX12_even_78 hm _ hk14 _ _ _ _ _ h)
  · skip
    refine frp_ck (fun b2 => ?_)
    refine frp_nm (fun v3 => ?_)
    exact (wfX12_even_78 hm _ hk14 _ _ _ _ _ h)
theorem wfX12_even_14 {m : Nat} {σ0 : S2} (hm : 1 ||| m = m) : ∀ (n : Nat) (σ : S2) (x1 : Int32) (x2 : Int32) (x3 : Int32) (x4 : Int32), Fr gM m σ0 σ → FrP gM m σ0 (fX12_even_14 n σ x1 x2 x3 x4) := by
  intro n
  induction n with
  | zero => intro σ x1 x2 x3 x4 _; exact frp_n
  | succ n ih =>
    intro σ x1 x2 x3 x4 h
    unfold fX12_even_14
    refine frp_if ?_ ?_
    · skip
      exact frp_s h
    · skip
      refine frp_bi (fun r4 => ?_)
      refine frp_if ?_ ?_
      · skip
        exact (wfX12_even_79 hm _ ih _ _ _ _ _ h)
      · skip
        refine frp_ck (fun b1 => ?_)
        refine frp_nm (fun v6 => ?_)
        refine frp_if ?_ ?_
        · skip
          exact (wfX12_even_55 hm _ ih _ _ _ _ _ h)
        · skip
          refine frp_ck (fun b2 => ?_)
          refine frp_nm (fun v7 => ?_)
          exact (wfX12_even_55 hm _ ih _ _ _ _ _ h)
theorem wfX12_even_0 {m : Nat} {σ0 : S2} (hm : 1 ||| m = m) (σ : S2) (x1 : Int32) (h : Fr gM m σ0 σ) : FrP gM m σ0 (fX12_even_0 σ x1) := by
  unfold fX12_even_0
  refine frp_bs (wfX12_findOdds hm _ _ h) (fun r8 σ9 h1 => ?_)
  exact (wfX12_even_14 hm _ _ _ _ _ _ h1)
theorem wfX12_even {m : Nat} {σ0 : S2} (hm : 1 ||| m = m) (σ : S2) (a1 : Int32) (h : Fr gM m σ0 σ) : FrP gM m σ0 (fX12_even σ a1) := by
  unfold fX12_even
  exact (wfX12_even_0 hm _ _ h)
theorem wfX12_ofTable_0 {m : Nat} {σ0 : S2} (hm : 1 ||| m = m) (σ : S2) (x1 : Int32) (x2 : Int32) (h : Fr gM m σ0 σ) : FrP gM m σ0 (fX12_ofTable_0 σ x1 x2) := by
  unfold fX12_ofTable_0
  refine frp_bi (fun r1 => ?_)
  refine frp_if ?_ ?_
  · skip
    exact frp_s h
  · skip
    refine frp_if ?_ ?_
    · skip
      refine frp_ck (fun b1 => ?_)
      refine frp_nm (fun v4 => ?_)
      exact frp_s h
    · skip
      refine frp_if ?_ ?_
      · skip
        refine frp_ck (fun b2 => ?_)
        refine frp_nm (fun v6 => ?_)
        exact frp_s h
      · skip
        refine frp_if ?_ ?_
        · skip
          refine frp_ck (fun b3 => ?_)
          refine frp_nm (fun v8 => ?_)
          exact frp_s h
        · skip
          refine frp_if ?_ ?_
          · skip
            refine frp_ck (fun b4 => ?_)
            refine frp_nm (fun v10 => ?_)
            exact frp_s h
          · skip
            refine frp_if ?_ ?_
            · skip
              refine frp_ck (fun b5 => ?_)
              refine frp_nm (fun v12 => ?_)
              exact frp_s h
            · skip
              refine frp_if ?_ ?_
              · skip
                refine frp_bs (wfX12_even hm _ _ h) (fun r14 σ15 h6 => ?_)
                exact frp_s h6
              · skip
                exact frp_s h
theorem wfX12_ofTable {m : Nat} {σ0 : S2} (hm : 1 ||| m = m) (σ : S2) (a1 : Int32) (a2 : Int32) (h : Fr gM m σ0 σ) : FrP gM m σ0 (fX12_ofTable σ a1 a2) := by
  unfold fX12_ofTable
  exact (wfX12_ofTable_0 hm _ _ _ h)
theorem wfX12_moves_191 {m : Nat} {σ0 : S2} (hm : 1 ||| m = m) (k117 : S2 → Int32 → Int32 → Int32 → Int32 → Int32 → Int32 → Int32 → Option (Int32 × S2)) (hk117 : ∀ (y0 : S2) (y1 : Int32) (y2 : Int32) (y3 : Int32) (y4 : Int32) (y5 : Int32) (y6 : Int32) (y7 : Int32), Fr gM m σ0 y0 → FrP gM m σ0 (k117 y0 y1 y2 y3 y4 y5 y6 y7)) (σ : S2) (x1 : Int32) (x2 : Int32) (x3 : Int32) (x4 : Int32) (x5 : Int32) (x7 : Int32) (s0 : Int32) (s1 : Int32) (h : Fr gM m σ0 σ) : FrP gM m σ0 (fX12_moves_191 k117 σ x1 x2 x3 x4 x5 x7 s0 s1) := by
  unfold fX12_moves_191
  refine frp_nm (fun v1 => ?_)
  refine frp_nm (fun v2 => ?_)
  exact (hk117 _ _ _ _ _ _ _ _ h)
theorem wfX12_moves_117 {m : Nat} {σ0 : S2} (hm : 1 ||| m = m) : ∀ (n : Nat) (σ : S2) (x1 : Int32) (x2 : Int32) (x3 : Int32) (x4 : Int32) (x5 : Int32) (x6 : Int32) (x7 : Int32), Fr gM m σ0 σ → FrP gM m σ0 (fX12_moves_117 n σ x1 x2 x3 x4 x5 x6 x7) := by
  intro n
  induction n with
  | zero => intro σ x1 x2 x3 x4 x5 x6 x7 _; exact frp_n
  | succ n ih =>
    intro σ x1 x2 x3 x4 x5 x6 x7 h
    unfold fX12_moves_117
    refine frp_if ?_ ?_
    · skip
      refine frp_if ?_ ?_
      · skip
        exact frp_s h
      · skip
        exact frp_s h
    · skip
      refine frp_bs (wfX12_chooseName hm _ _ _ h) (fun r3 σ4 h1 => ?_)
      refine frp_bi (fun r6 => ?_)
      refine frp_bs (wfX12_chooseName hm _ _ _ h1) (fun r8 σ9 h2 => ?_)
      refine frp_bi (fun r11 => ?_)
      refine frp_nm (fun v13 => ?_)
      refine frp_bi (fun r14 => ?_)
      refine frp_nm (fun v16 => ?_)
      refine frp_if ?_ ?_
      · skip
        refine frp_bi (fun r17 => ?_)
        exact (wfX12_moves_191 hm _ ih _ _ _ _ _ _ _ _ _ h2)
      · skip
        exact (wfX12_moves_191 hm _ ih _ _ _ _ _ _ _ _ _ h2)
theorem wfX12_moves_99 {m : Nat} {σ0 : S2} (hm : 1 ||| m = m) (k33 : S2 → Int32 → Int32 → Int32 → Int32 → Int32 → Option (Int32 × S2)) (hk33 : ∀ (y0 : S2) (y1 : Int32) (y2 : Int32) (y3 : Int32) (y4 : Int32) (y5 : Int32), Fr gM m σ0 y0 → FrP gM m σ0 (k33 y0 y1 y2 y3 y4 y5)) (σ : S2) (x1 : Int32) (x2 : Int32) (x3 : Int32) (x5 : Int32) (s0 : Int32) (s1 : Int32) (h : Fr gM m σ0 σ) : FrP gM m σ0 (fX12_moves_99 k33 σ x1 x2 x3 x5 s0 s1) := by
  unfold fX12_moves_99
  refine frp_nm (fun v19 => ?_)
  refine frp_nm (fun v20 => ?_)
  exact (hk33 _ _ _ _ _ _ h)
theorem wfX12_moves_98 {m : Nat} {σ0 : S2} (hm : 1 ||| m = m) (k33 : S2 → Int32 → Int32 → Int32 → Int32 → Int32 → Option (Int32 × S2)) (hk33 : ∀ (y0 : S2) (y1 : Int32) (y2 : Int32) (y3 : Int32) (y4 : Int32) (y5 : Int32), Fr gM m σ0 y0 → FrP gM m σ0 (k33 y0 y1 y2 y3 y4 y5)) (σ : S2) (x1 : Int32) (x2 : Int32) (x3 : Int32) (x5 : Int32) (s0 : Int32) (h : Fr gM m σ0 σ) : FrP gM m σ0 (fX12_moves_98 k33 σ x1 x2 x3 x5 s0) := by
  unfold fX12_moves_98
  exact (wfX12_moves_99 hm _ hk33 _ _ _ _ _ _ _ h)
theorem wfX12_moves_33 {m : Nat} {σ0 : S2} (hm : 1 ||| m = m) : ∀ (n : Nat) (σ : S2) (x1 : Int32) (x2 : Int32) (x3 : Int32) (x4 : Int32) (x5 : Int32), Fr gM m σ0 σ → FrP gM m σ0 (fX12_moves_33 n σ x1 x2 x3 x4 x5) := by
  intro n
  induction n with
  | zero => intro σ x1 x2 x3 x4 x5 _; exact frp_n
  | succ n ih =>
    intro σ x1 x2 x3 x4 x5 h
    unfold fX12_moves_33
    refine frp_if ?_ ?_
    · skip
      exact (wfX12_moves_117 hm _ _ _ _ _ _ _ _ _ h)
    · skip
      refine frp_bi (fun r21 => ?_)
      refine frp_if ?_ ?_
      · skip
        exact (wfX12_moves_98 hm _ ih _ _ _ _ _ _ h)
      · skip
        refine frp_bi (fun r23 => ?_)
        refine frp_if ?_ ?_
        · skip
          exact (wfX12_moves_98 hm _ ih _ _ _ _ _ _ h)
        · skip
          refine frp_ck (fun b1 => ?_)
          refine frp_nm (fun v25 => ?_)
          refine frp_ck (fun b2 => ?_)
          refine frp_nm (fun v26 => ?_)
          refine frp_if ?_ ?_
          · skip
            exact (wfX12_moves_99 hm _ ih _ _ _ _ _ _ _ h)
          · skip
            exact (wfX12_moves_98 hm _ ih _ _ _ _ _ _ h)
theorem wfX12_moves_0 {m : Nat} {σ0 : S2} (hm : 1 ||| m = m) (σ : S2) (x1 : Int32) (x2 : Int32) (x3 : Int32) (h : Fr gM m σ0 σ) : FrP gM m σ0 (fX12_moves_0 σ x1 x2 x3) := by
  unfold fX12_moves_0
  refine frp_bi (fun r27 => ?_)
  refine frp_if ?_ ?_
  · skip
    exact frp_s h
  · skip
    refine frp_bi (fun r29 => ?_)
    refine frp_if ?_ ?_
    · skip
      exact frp_s h
    · skip
      refine frp_bi (fun r31 => ?_)
      refine frp_if ?_ ?_
      · skip
        exact frp_s h
      · skip
        exact (wfX12_moves_33 hm _ _ _ _ _ _ _ h)
theorem wfX12_moves {m : Nat} {σ0 : S2} (hm : 1 ||| m = m) (σ : S2) (a1 : Int32) (a2 : Int32) (a3 : Int32) (h : Fr gM m σ0 σ) : FrP gM m σ0 (fX12_moves σ a1 a2 a3) := by
  unfold fX12_moves
  exact (wfX12_moves_0 hm _ _ _ _ h)
theorem wfX12_knows_0 {m : Nat} {σ0 : S2} (hm : 128 ||| m = m) (σ : S2) (x1 : Int32) (x2 : Int32) (h : Fr gM m σ0 σ) : FrP gM m σ0 (fX12_knows_0 σ x1 x2) := by
  unfold fX12_knows_0
  refine frp_bi (fun r1 => ?_)
  refine frp_if ?_ ?_
  · skip
    exact frp_s h
  · skip
    refine frp_bi (fun r3 => ?_)
    refine frp_if ?_ ?_
    · skip
      exact frp_s h
    · skip
      refine frp_ck (fun b1 => ?_)
      refine frp_nm (fun v5 => ?_)
      refine frp_ck (fun b2 => ?_)
      refine frp_w (Fr.wI h (tb_of (g := 7) hm rfl)) (fun σ6 h3 => ?_)
      exact frp_s h3
theorem wfX12_knows {m : Nat} {σ0 : S2} (hm : 128 ||| m = m) (σ : S2) (a1 : Int32) (a2 : Int32) (h : Fr gM m σ0 σ) : FrP gM m σ0 (fX12_knows σ a1 a2) := by
  unfold fX12_knows
  exact (wfX12_knows_0 hm _ _ _ h)
theorem wfX12_keeps_90 {m : Nat} {σ0 : S2} (hm : 4096 ||| m = m) (k3 : S2 → Int32 → Int32 → Int32 → Int32 → Int32 → Option (Int32 × S2)) (hk3 : ∀ (y0 : S2) (y1 : Int32) (y2 : Int32) (y3 : Int32) (y4 : Int32) (y5 : Int32), Fr gM m σ0 y0 → FrP gM m σ0 (k3 y0 y1 y2 y3 y4 y5)) (σ : S2) (x1 : Int32) (x2 : Int32) (x3 : Int32) (x4 : Int32) (x5 : Int32) (h : Fr gM m σ0 σ) : FrP gM m σ0 (fX12_keeps_90 k3 σ x1 x2 x3 x4 x5) := by
  unfold fX12_keeps_90
  refine frp_nm (fun v1 => ?_)
  exact (hk3 _ _ _ _ _ _ h)
theorem wfX12_keeps_71 {m : Nat} {σ0 : S2} (hm : 4096 ||| m = m) (σ : S2) (x2 : Int32) (x4 : Int32) (x7 : Int32) (h : Fr gM m σ0 σ) : FrP gM m σ0 (fX12_keeps_71 σ x2 x4 x7) := by
  unfold fX12_keeps_71
  refine frp_ck (fun b1 => ?_)
  refine frp_w (Fr.wI h (tb_of (g := 12) hm rfl)) (fun σ2 h2 => ?_)
  refine frp_ck (fun b3 => ?_)
  refine frp_w (Fr.wI h2 (tb_of (g := 12) hm rfl)) (fun σ3 h4 => ?_)
  exact frp_s h4
theorem wfX12_keeps_3 {m : Nat} {σ0 : S2} (hm : 4096 ||| m = m) : ∀ (n : Nat) (σ : S2) (x1 : Int32) (x2 : Int32) (x3 : Int32) (x4 : Int32) (x5 : Int32), Fr gM m σ0 σ → FrP gM m σ0 (fX12_keeps_3 n σ x1 x2 x3 x4 x5) := by
  intro n
  induction n with
  | zero => intro σ x1 x2 x3 x4 x5 _; exact frp_n
  | succ n ih =>
    intro σ x1 x2 x3 x4 x5 h
    unfold fX12_keeps_3
    refine frp_if ?_ ?_
    · skip
      exact frp_s h
    · skip
      refine frp_ck (fun b1 => ?_)
      refine frp_nm (fun v4 => ?_)
      refine frp_nm (fun v5 => ?_)
      refine frp_if ?_ ?_
      · skip
        refine frp_bi (fun r6 => ?_)
        refine frp_if ?_ ?_
        · skip
          exact (wfX12_keeps_90 hm _ ih _ _ _ _ _ _ h)
        · skip
          refine frp_ck (fun b2 => ?_)
          refine frp_nm (fun v8 => ?_)
          refine frp_if ?_ ?_
          · skip
            exact (wfX12_keeps_71 hm _ _ _ _ h)
          · skip
            refine frp_ck (fun b3 => ?_)
            refine frp_nm (fun v9 => ?_)
            refine frp_if ?_ ?_
            · skip
              exact (wfX12_keeps_71 hm _ _ _ _ h)
            · skip
              exact (wfX12_keeps_90 hm _ ih _ _ _ _ _ _ h)
      · skip
        exact (wfX12_keeps_90 hm _ ih _ _ _ _ _ _ h)
theorem wfX12_keeps_0 {m : Nat} {σ0 : S2} (hm : 4096 ||| m = m) (σ : S2) (x1 : Int32) (x2 : Int32) (x3 : Int32) (x4 : Int32) (h : Fr gM m σ0 σ) : FrP gM m σ0 (fX12_keeps_0 σ x1 x2 x3 x4) := by
  unfold fX12_keeps_0
  exact (wfX12_keeps_3 hm _ _ _ _ _ _ _ h)
theorem wfX12_keeps {m : Nat} {σ0 : S2} (hm : 4096 ||| m = m) (σ : S2) (a1 : Int32) (a2 : Int32) (a3 : Int32) (a4 : Int32) (h : Fr gM m σ0 σ) : FrP gM m σ0 (fX12_keeps σ a1 a2 a3 a4) := by
  unfold fX12_keeps
  exact (wfX12_keeps_0 hm _ _ _ _ _ h)
theorem wfX12_write_175 {m : Nat} {σ0 : S2} (hm : 55297 ||| m = m) (k80 : S2 → Int32 → Int32 → Int32 → Int32 → Option (Int32 × S2)) (hk80 : ∀ (y0 : S2) (y1 : Int32) (y2 : Int32) (y3 : Int32) (y4 : Int32), Fr gM m σ0 y0 → FrP gM m σ0 (k80 y0 y1 y2 y3 y4)) (σ : S2) (x2 : Int32) (x3 : Int32) (x4 : Int32) (x5 : Int32) (h : Fr gM m σ0 σ) : FrP gM m σ0 (fX12_write_175 k80 σ x2 x3 x4 x5) := by
  unfold fX12_write_175
  refine frp_nm (fun v1 => ?_)
  exact (hk80 _ _ _ _ _ h)
theorem wfX12_write_80 {m : Nat} {σ0 : S2} (hm : 55297 ||| m = m) : ∀ (n : Nat) (σ : S2) (x2 : Int32) (x3 : Int32) (x4 : Int32) (x5 : Int32), Fr gM m σ0 σ → FrP gM m σ0 (fX12_write_80 n σ x2 x3 x4 x5) := by
  intro n
  induction n with
  | zero => intro σ x2 x3 x4 x5 _; exact frp_n
  | succ n ih =>
    intro σ x2 x3 x4 x5 h
    unfold fX12_write_80
    refine frp_if ?_ ?_
    · skip
      exact frp_s h
    · skip
      refine frp_ck (fun b1 => ?_)
      refine frp_nm (fun v2 => ?_)
      refine frp_ck (fun b2 => ?_)
      refine frp_nm (fun v3 => ?_)
      refine frp_if ?_ ?_
      · skip
        refine frp_ck (fun b3 => ?_)
        refine frp_nm (fun v4 => ?_)
        refine frp_if ?_ ?_
        · skip
          refine frp_ck (fun b4 => ?_)
          refine frp_nm (fun v10 => ?_)
          refine frp_bs (wfX12_keeps (tb_sub (a := 55297) rfl hm) _ _ _ _ _ h) (fun r11 σ12 h5 => ?_)
          refine frp_nm (fun v14 => ?_)
          exact (wfX12_write_175 hm _ ih _ _ _ _ _ h5)
        · skip
          refine frp_bi (fun r5 => ?_)
          refine frp_if ?_ ?_
          · skip
            exact (wfX12_write_175 hm _ ih _ _ _ _ _ h)
          · skip
            refine frp_ck (fun b6 => ?_)
            refine frp_nm (fun v7 => ?_)
            refine frp_ck (fun b7 => ?_)
            refine frp_w (Fr.wI h (tb_of (g := 11) hm rfl)) (fun σ8 h8 => ?_)
            refine frp_nm (fun v9 => ?_)
            exact (wfX12_write_175 hm _ ih _ _ _ _ _ h8)
      · skip
        exact (wfX12_write_175 hm _ ih _ _ _ _ _ h)
theorem wfX12_write_0 {m : Nat} {σ0 : S2} (hm : 55297 ||| m = m) (σ : S2) (x1 : Int32) (x2 : Int32) (h : Fr gM m σ0 σ) : FrP gM m σ0 (fX12_write_0 σ x1 x2) := by
  unfold fX12_write_0
  refine frp_bi (fun r15 => ?_)
  refine frp_if ?_ ?_
  · skip
    exact frp_s h
  · skip
    refine frp_bi (fun r17 => ?_)
    refine frp_if ?_ ?_
    · skip
      exact frp_s h
    · skip
      refine frp_ck (fun b1 => ?_)
      refine frp_nm (fun v19 => ?_)
      refine frp_if ?_ ?_
      · skip
        exact frp_s h
      · skip
        refine frp_bi (fun r20 => ?_)
        refine frp_if ?_ ?_
        · skip
          exact frp_s h
        · skip
          refine frp_ck (fun b2 => ?_)
          refine frp_nm (fun v22 => ?_)
          refine frp_ck (fun b3 => ?_)
          refine frp_w (Fr.wI h (tb_of (g := 14) hm rfl)) (fun σ23 h4 => ?_)
          refine frp_w (Fr.wI h4 (tb_of (g := 15) hm rfl)) (fun σ24 h5 => ?_)
          refine frp_ck (fun b6 => ?_)
          refine frp_nm (fun v25 => ?_)
          refine frp_bs (wfX12_chooseName (tb_sub (a := 55297) rfl hm) _ _ _ h5) (fun r26 σ27 h7 => ?_)
          refine frp_bi (fun r29 => ?_)
          exact (wfX12_write_80 hm _ _ _ _ _ _ h7)
theorem wfX12_write {m : Nat} {σ0 : S2} (hm : 55297 ||| m = m) (σ : S2) (a1 : Int32) (a2 : Int32) (h : Fr gM m σ0 σ) : FrP gM m σ0 (fX12_write σ a1 a2) := by
  unfold fX12_write
  exact (wfX12_write_0 hm _ _ _ h)
theorem wfX12_read_112 {m : Nat} {σ0 : S2} (hm : 1 ||| m = m) (k54 : S2 → Int32 → Int32 → Int32 → Option (Int32 × S2)) (hk54 : ∀ (y0 : S2) (y1 : Int32) (y2 : Int32) (y3 : Int32), Fr gM m σ0 y0 → FrP gM m σ0 (k54 y0 y1 y2 y3)) (σ : S2) (x2 : Int32) (x4 : Int32) (s0 : Int32) (h : Fr gM m σ0 σ) : FrP gM m σ0 (fX12_read_112 k54 σ x2 x4 s0) := by
  unfold fX12_read_112
  refine frp_nm (fun v1 => ?_)
  exact (hk54 _ _ _ _ h)
theorem wfX12_read_98 {m : Nat} {σ0 : S2} (hm : 1 ||| m = m) (k54 : S2 → Int32 → Int32 → Int32 → Option (Int32 × S2)) (hk54 : ∀ (y0 : S2) (y1 : Int32) (y2 : Int32) (y3 : Int32), Fr gM m σ0 y0 → FrP gM m σ0 (k54 y0 y1 y2 y3)) (σ : S2) (x2 : Int32) (x3 : Int32) (x4 : Int32) (s0 : Int32) (h : Fr gM m σ0 σ) : FrP gM m σ0 (fX12_read_98 k54 σ x2 x3 x4 s0) := by
  unfold fX12_read_98
  refine frp_if ?_ ?_
  · skip
    exact (wfX12_read_112 hm _ hk54 _ _ _ _ h)
  · skip
    exact (wfX12_read_112 hm _ hk54 _ _ _ _ h)
theorem wfX12_read_54 {m : Nat} {σ0 : S2} (hm : 1 ||| m = m) : ∀ (n : Nat) (σ : S2) (x2 : Int32) (x3 : Int32) (x4 : Int32), Fr gM m σ0 σ → FrP gM m σ0 (fX12_read_54 n σ x2 x3 x4) := by
  intro n
  induction n with
  | zero => intro σ x2 x3 x4 _; exact frp_n
  | succ n ih =>
    intro σ x2 x3 x4 h
    unfold fX12_read_54
    refine frp_if ?_ ?_
    · skip
      exact frp_s h
    · skip
      refine frp_ck (fun b1 => ?_)
      refine frp_nm (fun v2 => ?_)
      refine frp_bi (fun r3 => ?_)
      refine frp_if ?_ ?_
      · skip
        exact (wfX12_read_98 hm _ ih _ _ _ _ _ h)
      · skip
        refine frp_ck (fun b2 => ?_)
        refine frp_nm (fun v5 => ?_)
        refine frp_ck (fun b3 => ?_)
        refine frp_nm (fun v6 => ?_)
        exact (wfX12_read_98 hm _ ih _ _ _ _ _ h)
theorem wfX12_read_0 {m : Nat} {σ0 : S2} (hm : 1 ||| m = m) (σ : S2) (x1 : Int32) (x2 : Int32) (h : Fr gM m σ0 σ) : FrP gM m σ0 (fX12_read_0 σ x1 x2) := by
  unfold fX12_read_0
  refine frp_bi (fun r7 => ?_)
  refine frp_if ?_ ?_
  · skip
    exact frp_s h
  · skip
    refine frp_bi (fun r9 => ?_)
    refine frp_if ?_ ?_
    · skip
      exact frp_s h
    · skip
      refine frp_ck (fun b1 => ?_)
      refine frp_nm (fun v11 => ?_)
      refine frp_if ?_ ?_
      · skip
        exact frp_s h
      · skip
        refine frp_bi (fun r12 => ?_)
        refine frp_if ?_ ?_
        · skip
          exact frp_s h
        · skip
          refine frp_ck (fun b2 => ?_)
          refine frp_nm (fun v14 => ?_)
          refine frp_bs (wfX12_chooseName hm _ _ _ h) (fun r15 σ16 h3 => ?_)
          exact (wfX12_read_54 hm _ _ _ _ _ h3)
theorem wfX12_read {m : Nat} {σ0 : S2} (hm : 1 ||| m = m) (σ : S2) (a1 : Int32) (a2 : Int32) (h : Fr gM m σ0 σ) : FrP gM m σ0 (fX12_read σ a1 a2) := by
  unfold fX12_read
  exact (wfX12_read_0 hm _ _ _ h)
theorem wfX12_fall_53 {m : Nat} {σ0 : S2} (hm : 6400 ||| m = m) : ∀ (n : Nat) (σ : S2) (x1 : Int32) (x2 : Int32) (x3 : Int32) (x4 : Int32), Fr gM m σ0 σ → FrP gM m σ0 (fX12_fall_53 n σ x1 x2 x3 x4) := by
  intro n
  induction n with
  | zero => intro σ x1 x2 x3 x4 _; exact frp_n
  | succ n ih =>
    intro σ x1 x2 x3 x4 h
    unfold fX12_fall_53
    refine frp_if ?_ ?_
    · skip
      exact frp_s h
    · skip
      refine frp_if ?_ ?_
      · skip
        refine frp_ck (fun b1 => ?_)
        refine frp_w (Fr.wI h (tb_of (g := 11) hm rfl)) (fun σ1 h2 => ?_)
        refine frp_ck (fun b3 => ?_)
        refine frp_w (Fr.wI h2 (tb_of (g := 12) hm rfl)) (fun σ2 h4 => ?_)
        refine frp_ck (fun b5 => ?_)
        refine frp_w (Fr.wI h4 (tb_of (g := 12) hm rfl)) (fun σ3 h6 => ?_)
        refine frp_nm (fun v4 => ?_)
        exact (ih _ _ _ _ _ h6)
      · skip
        exact frp_s h
theorem wfX12_fall_49 {m : Nat} {σ0 : S2} (hm : 6400 ||| m = m) (σ : S2) (x1 : Int32) (x2 : Int32) (x3 : Int32) (s0 : Int32) (s1 : Int32) (h : Fr gM m σ0 σ) : FrP gM m σ0 (fX12_fall_49 σ x1 x2 x3 s0 s1) := by
  unfold fX12_fall_49
  refine frp_ck (fun b1 => ?_)
  refine frp_w (Fr.wI h (tb_of (g := 8) hm rfl)) (fun σ5 h2 => ?_)
  exact (wfX12_fall_53 hm _ _ _ _ _ _ h2)
theorem wfX12_fall_33 {m : Nat} {σ0 : S2} (hm : 6400 ||| m = m) (σ : S2) (x1 : Int32) (x2 : Int32) (s0 : Int32) (h : Fr gM m σ0 σ) : FrP gM m σ0 (fX12_fall_33 σ x1 x2 s0) := by
  unfold fX12_fall_33
  refine frp_if ?_ ?_
  · skip
    exact (wfX12_fall_49 hm _ _ _ _ _ _ h)
  · skip
    exact (wfX12_fall_49 hm _ _ _ _ _ _ h)
theorem wfX12_fall_0 {m : Nat} {σ0 : S2} (hm : 6400 ||| m = m) (σ : S2) (x1 : Int32) (x2 : Int32) (h : Fr gM m σ0 σ) : FrP gM m σ0 (fX12_fall_0 σ x1 x2) := by
  unfold fX12_fall_0
  refine frp_bi (fun r6 => ?_)
  refine frp_if ?_ ?_
  · skip
    exact frp_s h
  · skip
    refine frp_bi (fun r8 => ?_)
    refine frp_if ?_ ?_
    · skip
      exact frp_s h
    · skip
      refine frp_ck (fun b1 => ?_)
      refine frp_nm (fun v10 => ?_)
      refine frp_if ?_ ?_
      · skip
        exact (wfX12_fall_33 hm _ _ _ _ h)
      · skip
        exact (wfX12_fall_33 hm _ _ _ _ h)
theorem wfX12_fall {m : Nat} {σ0 : S2} (hm : 6400 ||| m = m) (σ : S2) (a1 : Int32) (a2 : Int32) (h : Fr gM m σ0 σ) : FrP gM m σ0 (fX12_fall σ a1 a2) := by
  unfold fX12_fall
  exact (wfX12_fall_0 hm _ _ _ h)
theorem wfX12_half_68 {m : Nat} {σ0 : S2} (hm : 10240 ||| m = m) (σ : S2) (x4 : Int32) (h : Fr gM m σ0 σ) : FrP gM m σ0 (fX12_half_68 σ x4) := by
  unfold fX12_half_68
  refine frp_ck (fun b1 => ?_)
  refine frp_w (Fr.wI h (tb_of (g := 13) hm rfl)) (fun σ1 h2 => ?_)
  exact frp_s h2
theorem wfX12_half_194 {m : Nat} {σ0 : S2} (hm : 10240 ||| m = m) (σ : S2) (x4 : Int32) (s0 : Int32) (s1 : Int32) (h : Fr gM m σ0 σ) : FrP gM m σ0 (fX12_half_194 σ x4 s0 s1) := by
  unfold fX12_half_194
  refine frp_ck (fun b1 => ?_)
  refine frp_w (Fr.wI h (tb_of (g := 11) hm rfl)) (fun σ2 h2 => ?_)
  refine frp_ck (fun b3 => ?_)
  refine frp_w (Fr.wI h2 (tb_of (g := 11) hm rfl)) (fun σ3 h4 => ?_)
  refine frp_ck (fun b5 => ?_)
  refine frp_w (Fr.wI h4 (tb_of (g := 13) hm rfl)) (fun σ4 h6 => ?_)
  exact frp_s h6
theorem wfX12_half_118 {m : Nat} {σ0 : S2} (hm : 10240 ||| m = m) (σ : S2) (x1 : Int32) (x3 : Int32) (x4 : Int32) (s0 : Int32) (s1 : Int32) (h : Fr gM m σ0 σ) : FrP gM m σ0 (fX12_half_118 σ x1 x3 x4 s0 s1) := by
  unfold fX12_half_118
  refine frp_ck (fun b1 => ?_)
  refine frp_w (Fr.wI h (tb_of (g := 13) hm rfl)) (fun σ5 h2 => ?_)
  refine frp_ck (fun b3 => ?_)
  refine frp_w (Fr.wI h2 (tb_of (g := 13) hm rfl)) (fun σ6 h4 => ?_)
  refine frp_ck (fun b5 => ?_)
  refine frp_nm (fun v7 => ?_)
  refine frp_if ?_ ?_
  · skip
    refine frp_nm (fun v8 => ?_)
    refine frp_ck (fun b6 => ?_)
    refine frp_nm (fun v9 => ?_)
    refine frp_ck (fun b7 => ?_)
    refine frp_nm (fun v10 => ?_)
    refine frp_if ?_ ?_
    · skip
      refine frp_ck (fun b8 => ?_)
      refine frp_nm (fun v11 => ?_)
      exact (wfX12_half_194 hm _ _ _ _ h4)
    · skip
      refine frp_ck (fun b9 => ?_)
      refine frp_nm (fun v12 => ?_)
      exact (wfX12_half_194 hm _ _ _ _ h4)
  · skip
    refine frp_ck (fun b10 => ?_)
    refine frp_nm (fun v13 => ?_)
    exact frp_s h4
theorem wfX12_half_117 {m : Nat} {σ0 : S2} (hm : 10240 ||| m = m) (σ : S2) (x1 : Int32) (x3 : Int32) (x4 : Int32) (s0 : Int32) (h : Fr gM m σ0 σ) : FrP gM m σ0 (fX12_half_117 σ x1 x3 x4 s0) := by
  unfold fX12_half_117
  exact (wfX12_half_118 hm _ _ _ _ _ _ h)
theorem wfX12_half_0 {m : Nat} {σ0 : S2} (hm : 10240 ||| m = m) (σ : S2) (x1 : Int32) (x2 : Int32) (x3 : Int32) (h : Fr gM m σ0 σ) : FrP gM m σ0 (fX12_half_0 σ x1 x2 x3) := by
  unfold fX12_half_0
  refine frp_bi (fun r14 => ?_)
  refine frp_if ?_ ?_
  · skip
    exact frp_s h
  · skip
    refine frp_bi (fun r16 => ?_)
    refine frp_if ?_ ?_
    · skip
      exact frp_s h
    · skip
      refine frp_bi (fun r18 => ?_)
      refine frp_if ?_ ?_
      · skip
        exact frp_s h
      · skip
        refine frp_if ?_ ?_
        · skip
          exact frp_s h
        · skip
          refine frp_nm (fun v20 => ?_)
          refine frp_ck (fun b1 => ?_)
          refine frp_nm (fun v21 => ?_)
          refine frp_if ?_ ?_
          · skip
            exact frp_s h
          · skip
            refine frp_bi (fun r22 => ?_)
            refine frp_if ?_ ?_
            · skip
              exact (wfX12_half_68 hm _ _ h)
            · skip
              refine frp_bi (fun r24 => ?_)
              refine frp_if ?_ ?_
              · skip
                exact (wfX12_half_68 hm _ _ h)
              · skip
                refine frp_ck (fun b2 => ?_)
                refine frp_nm (fun v26 => ?_)
                refine frp_if ?_ ?_
                · skip
                  exact (wfX12_half_117 hm _ _ _ _ _ h)
                · skip
                  refine frp_ck (fun b3 => ?_)
                  refine frp_nm (fun v27 => ?_)
                  refine frp_if ?_ ?_
                  · skip
                    refine frp_ck (fun b4 => ?_)
                    refine frp_nm (fun v28 => ?_)
                    exact (wfX12_half_118 hm _ _ _ _ _ _ h)
                  · skip
                    exact (wfX12_half_117 hm _ _ _ _ _ h)
theorem wfX12_half {m : Nat} {σ0 : S2} (hm : 10240 ||| m = m) (σ : S2) (a1 : Int32) (a2 : Int32) (a3 : Int32) (h : Fr gM m σ0 σ) : FrP gM m σ0 (fX12_half σ a1 a2 a3) := by
  unfold fX12_half
  exact (wfX12_half_0 hm _ _ _ _ h)
theorem wfX12_mend_174 {m : Nat} {σ0 : S2} (hm : 2049 ||| m = m) (k98 : S2 → Int32 → Int32 → Int32 → Int32 → Int32 → Option (Int32 × S2)) (hk98 : ∀ (y0 : S2) (y1 : Int32) (y2 : Int32) (y3 : Int32) (y4 : Int32) (y5 : Int32), Fr gM m σ0 y0 → FrP gM m σ0 (k98 y0 y1 y2 y3 y4 y5)) (σ : S2) (x1 : Int32) (x2 : Int32) (x3 : Int32) (x4 : Int32) (x5 : Int32) (h : Fr gM m σ0 σ) : FrP gM m σ0 (fX12_mend_174 k98 σ x1 x2 x3 x4 x5) := by
  unfold fX12_mend_174
  refine frp_nm (fun v1 => ?_)
  exact (hk98 _ _ _ _ _ _ h)
theorem wfX12_mend_98 {m : Nat} {σ0 : S2} (hm : 2049 ||| m = m) (k14 : S2 → Int32 → Int32 → Int32 → Option (Int32 × S2)) (hk14 : ∀ (y0 : S2) (y1 : Int32) (y2 : Int32) (y3 : Int32), Fr gM m σ0 y0 → FrP gM m σ0 (k14 y0 y1 y2 y3)) : ∀ (n : Nat) (σ : S2) (x1 : Int32) (x2 : Int32) (x3 : Int32) (x4 : Int32) (x5 : Int32), Fr gM m σ0 σ → FrP gM m σ0 (fX12_mend_98 k14 n σ x1 x2 x3 x4 x5) := by
  intro n
  induction n with
  | zero => intro σ x1 x2 x3 x4 x5 _; exact frp_n
  | succ n ih =>
    intro σ x1 x2 x3 x4 x5 h
    unfold fX12_mend_98
    refine frp_if ?_ ?_
    · skip
      refine frp_nm (fun v2 => ?_)
      exact (hk14 _ _ _ _ h)
    · skip
      refine frp_ck (fun b1 => ?_)
      refine frp_nm (fun v3 => ?_)
      refine frp_nm (fun v4 => ?_)
      refine frp_ck (fun b2 => ?_)
      refine frp_nm (fun v5 => ?_)
      refine frp_bi (fun r6 => ?_)
      refine frp_if ?_ ?_
      · skip
        exact (wfX12_mend_174 hm _ ih _ _ _ _ _ _ h)
      · skip
        refine frp_ck (fun b3 => ?_)
        refine frp_nm (fun v8 => ?_)
        refine frp_if ?_ ?_
        · skip
          exact (wfX12_mend_174 hm _ ih _ _ _ _ _ _ h)
        · skip
          refine frp_ck (fun b4 => ?_)
          refine frp_nm (fun v9 => ?_)
          refine frp_bi (fun r10 => ?_)
          refine frp_if ?_ ?_
          · skip
            exact (wfX12_mend_174 hm _ ih _ _ _ _ _ _ h)
          · skip
            refine frp_ck (fun b5 => ?_)
            refine frp_w (Fr.wI h (tb_of (g := 11) hm rfl)) (fun σ12 h6 => ?_)
            refine frp_nm (fun v13 => ?_)
            exact (wfX12_mend_174 hm _ ih _ _ _ _ _ _ h6)
theorem wfX12_mend_81 {m : Nat} {σ0 : S2} (hm : 2049 ||| m = m) (k28 : S2 → Int32 → Int32 → Int32 → Int32 → Int32 → Option (Int32 × S2)) (hk28 : ∀ (y0 : S2) (y1 : Int32) (y2 : Int32) (y3 : Int32) (y4 : Int32) (y5 : Int32), Fr gM m σ0 y0 → FrP gM m σ0 (k28 y0 y1 y2 y3 y4 y5)) (σ : S2) (x1 : Int32) (x2 : Int32) (x3 : Int32) (x5 : Int32) (s0 : Int32) (h : Fr gM m σ0 σ) : FrP gM m σ0 (fX12_mend_81 k28 σ x1 x2 x3 x5 s0) := by
  unfold fX12_mend_81
  refine frp_nm (fun v14 => ?_)
  exact (hk28 _ _ _ _ _ _ h)
theorem wfX12_mend_79 {m : Nat} {σ0 : S2} (hm : 2049 ||| m = m) (k28 : S2 → Int32 → Int32 → Int32 → Int32 → Int32 → Option (Int32 × S2)) (hk28 : ∀ (y0 : S2) (y1 : Int32) (y2 : Int32) (y3 : Int32) (y4 : Int32) (y5 : Int32), Fr gM m σ0 y0 → FrP gM m σ0 (k28 y0 y1 y2 y3 y4 y5)) (σ : S2) (x1 : Int32) (x2 : Int32) (x3 : Int32) (x4 : Int32) (x5 : Int32) (h : Fr gM m σ0 σ) : FrP gM m σ0 (fX12_mend_79 k28 σ x1 x2 x3 x4 x5) := by
  unfold fX12_mend_79
  exact (wfX12_mend_81 hm _ hk28 _ _ _ _ _ _ h)
theorem wfX12_mend_28 {m : Nat} {σ0 : S2} (hm : 2049 ||| m = m) (k14 : S2 → Int32 → Int32 → Int32 → Option (Int32 × S2)) (hk14 : ∀ (y0 : S2) (y1 : Int32) (y2 : Int32) (y3 : Int32), Fr gM m σ0 y0 → FrP gM m σ0 (k14 y0 y1 y2 y3)) : ∀ (n : Nat) (σ : S2) (x1 : Int32) (x2 : Int32) (x3 : Int32) (x4 : Int32) (x5 : Int32), Fr gM m σ0 σ → FrP gM m σ0 (fX12_mend_28 k14 n σ x1 x2 x3 x4 x5) := by
  intro n
  induction n with
  | zero => intro σ x1 x2 x3 x4 x5 _; exact frp_n
  | succ n ih =>
    intro σ x1 x2 x3 x4 x5 h
    unfold fX12_mend_28
    refine frp_if ?_ ?_
    · skip
      refine frp_bs (wfX12_chooseName (tb_sub (a := 2049) rfl hm) _ _ _ h) (fun r15 σ16 h1 => ?_)
      exact (wfX12_mend_98 hm _ hk14 _ _ _ _ _ _ _ h1)
    · skip
      refine frp_ck (fun b2 => ?_)
      refine frp_nm (fun v18 => ?_)
      refine frp_if ?_ ?_
      · skip
        refine frp_ck (fun b3 => ?_)
        refine frp_nm (fun v19 => ?_)
        refine frp_if ?_ ?_
        · skip
          exact (wfX12_mend_79 hm _ ih _ _ _ _ _ _ h)
        · skip
          refine frp_ck (fun b4 => ?_)
          refine frp_nm (fun v20 => ?_)
          exact (wfX12_mend_81 hm _ ih _ _ _ _ _ _ h)
      · skip
        exact (wfX12_mend_79 hm _ ih _ _ _ _ _ _ h)
theorem wfX12_mend_14 {m : Nat} {σ0 : S2} (hm : 2049 ||| m = m) : ∀ (n : Nat) (σ : S2) (x1 : Int32) (x2 : Int32) (x3 : Int32), Fr gM m σ0 σ → FrP gM m σ0 (fX12_mend_14 n σ x1 x2 x3) := by
  intro n
  induction n with
  | zero => intro σ x1 x2 x3 _; exact frp_n
  | succ n ih =>
    intro σ x1 x2 x3 h
    unfold fX12_mend_14
    refine frp_if ?_ ?_
    · skip
      exact frp_s h
    · skip
      exact (wfX12_mend_28 hm _ ih _ _ _ _ _ _ _ h)
theorem wfX12_mend_0 {m : Nat} {σ0 : S2} (hm : 2049 ||| m = m) (σ : S2) (x1 : Int32) (h : Fr gM m σ0 σ) : FrP gM m σ0 (fX12_mend_0 σ x1) := by
  unfold fX12_mend_0
  refine frp_bi (fun r21 => ?_)
  refine frp_if ?_ ?_
  · skip
    exact frp_s h
  · skip
    exact (wfX12_mend_14 hm _ _ _ _ _ h)
theorem wfX12_mend {m : Nat} {σ0 : S2} (hm : 2049 ||| m = m) (σ : S2) (a1 : Int32) (h : Fr gM m σ0 σ) : FrP gM m σ0 (fX12_mend σ a1) := by
  unfold fX12_mend
  exact (wfX12_mend_0 hm _ _ h)
theorem wfX12_comes_0 {m : Nat} {σ0 : S2} (hm : 65536 ||| m = m) (σ : S2) (x1 : Int32) (h : Fr gM m σ0 σ) : FrP gM m σ0 (fX12_comes_0 σ x1) := by
  unfold fX12_comes_0
  refine frp_bi (fun r1 => ?_)
  refine frp_if ?_ ?_
  · skip
    exact frp_s h
  · skip
    refine frp_bi (fun r3 => ?_)
    refine frp_if ?_ ?_
    · skip
      refine frp_if ?_ ?_
      · skip
        exact frp_s h
      · skip
        refine frp_ck (fun b1 => ?_)
        refine frp_w (Fr.wI h (tb_of (g := 16) hm rfl)) (fun σ5 h2 => ?_)
        refine frp_w (Fr.wI h2 (tb_of (g := 16) hm rfl)) (fun σ6 h3 => ?_)
        exact frp_s h3
    · skip
      exact frp_s h
theorem wfX12_comes {m : Nat} {σ0 : S2} (hm : 65536 ||| m = m) (σ : S2) (a1 : Int32) (h : Fr gM m σ0 σ) : FrP gM m σ0 (fX12_comes σ a1) := by
  unfold fX12_comes
  exact (wfX12_comes_0 hm _ _ h)
theorem wfX12_tries_162 {m : Nat} {σ0 : S2} (hm : 513 ||| m = m) (k71 : S2 → Int32 → Int32 → Option (Unit × S2)) (hk71 : ∀ (y0 : S2) (y1 : Int32) (y2 : Int32), Fr gM m σ0 y0 → FrP gM m σ0 (k71 y0 y1 y2)) (σ : S2) (x1 : Int32) (x4 : Int32) (s0 : Int32) (s1 : Int32) (h : Fr gM m σ0 σ) : FrP gM m σ0 (fX12_tries_162 k71 σ x1 x4 s0 s1) := by
  unfold fX12_tries_162
  refine frp_ck (fun b1 => ?_)
  refine frp_w (Fr.wI h (tb_of (g := 9) hm rfl)) (fun σ1 h2 => ?_)
  refine frp_nm (fun v2 => ?_)
  exact (hk71 _ _ _ h2)
theorem wfX12_tries_120 {m : Nat} {σ0 : S2} (hm : 513 ||| m = m) (k71 : S2 → Int32 → Int32 → Option (Unit × S2)) (hk71 : ∀ (y0 : S2) (y1 : Int32) (y2 : Int32), Fr gM m σ0 y0 → FrP gM m σ0 (k71 y0 y1 y2)) (σ : S2) (x1 : Int32) (x4 : Int32) (s0 : Int32) (s1 : Int32) (h : Fr gM m σ0 σ) : FrP gM m σ0 (fX12_tries_120 k71 σ x1 x4 s0 s1) := by
  unfold fX12_tries_120
  refine frp_ck (fun b1 => ?_)
  refine frp_w (Fr.wI h (tb_of (g := 9) hm rfl)) (fun σ3 h2 => ?_)
  refine frp_bi (fun r4 => ?_)
  refine frp_if ?_ ?_
  · skip
    refine frp_ck (fun b3 => ?_)
    refine frp_nm (fun v6 => ?_)
    exact (wfX12_tries_162 hm _ hk71 _ _ _ _ _ h2)
  · skip
    refine frp_ck (fun b4 => ?_)
    refine frp_nm (fun v7 => ?_)
    exact (wfX12_tries_162 hm _ hk71 _ _ _ _ _ h2)
theorem wfX12_tries_71 {m : Nat} {σ0 : S2} (hm : 513 ||| m = m) : ∀ (n : Nat) (σ : S2) (x1 : Int32) (x4 : Int32), Fr gM m σ0 σ → FrP gM m σ0 (fX12_tries_71 n σ x1 x4) := by
  intro n
  induction n with
  | zero => intro σ x1 x4 _; exact frp_n
  | succ n ih =>
    intro σ x1 x4 h
    unfold fX12_tries_71
    refine frp_if ?_ ?_
    · skip
      refine frp_bs (wfX12_numbers (tb_sub (a := 513) rfl hm) _ _ h) (fun r8 σ9 h1 => ?_)
      refine frp_bs (wfX12_reads hm _ _ h1) (fun r11 σ12 h2 => ?_)
      refine frp_bs (wfX12_sits (tb_sub (a := 513) rfl hm) _ _ h2) (fun r14 σ15 h3 => ?_)
      exact frp_s h3
    · skip
      refine frp_bi (fun r17 => ?_)
      refine frp_if ?_ ?_
      · skip
        refine frp_bi (fun r19 => ?_)
        exact (wfX12_tries_120 hm _ ih _ _ _ _ _ h)
      · skip
        refine frp_ck (fun b4 => ?_)
        refine frp_nm (fun v21 => ?_)
        exact (wfX12_tries_120 hm _ ih _ _ _ _ _ h)
theorem wfX12_tries_32 {m : Nat} {σ0 : S2} (hm : 513 ||| m = m) : ∀ (n : Nat) (σ : S2) (x1 : Int32) (x4 : Int32), Fr gM m σ0 σ → FrP gM m σ0 (fX12_tries_32 n σ x1 x4) := by
  intro n
  induction n with
  | zero => intro σ x1 x4 _; exact frp_n
  | succ n ih =>
    intro σ x1 x4 h
    unfold fX12_tries_32
    refine frp_if ?_ ?_
    · skip
      exact (wfX12_tries_71 hm _ _ _ _ h)
    · skip
      refine frp_ck (fun b1 => ?_)
      refine frp_nm (fun v22 => ?_)
      refine frp_ck (fun b2 => ?_)
      refine frp_w (Fr.wI h (tb_of (g := 9) hm rfl)) (fun σ23 h3 => ?_)
      refine frp_nm (fun v24 => ?_)
      exact (ih _ _ _ h3)
theorem wfX12_tries_0 {m : Nat} {σ0 : S2} (hm : 513 ||| m = m) (σ : S2) (x1 : Int32) (x2 : Int32) (x3 : Int32) (h : Fr gM m σ0 σ) : FrP gM m σ0 (fX12_tries_0 σ x1 x2 x3) := by
  unfold fX12_tries_0
  refine frp_ck (fun b1 => ?_)
  refine frp_w (Fr.wI h (tb_of (g := 9) hm rfl)) (fun σ25 h2 => ?_)
  refine frp_ck (fun b3 => ?_)
  refine frp_w (Fr.wI h2 (tb_of (g := 9) hm rfl)) (fun σ26 h4 => ?_)
  refine frp_ck (fun b5 => ?_)
  refine frp_nm (fun v27 => ?_)
  refine frp_ck (fun b6 => ?_)
  refine frp_w (Fr.wI h4 (tb_of (g := 9) hm rfl)) (fun σ28 h7 => ?_)
  exact (wfX12_tries_32 hm _ _ _ _ h7)
theorem wfX12_tries {m : Nat} {σ0 : S2} (hm : 513 ||| m = m) (σ : S2) (a1 : Int32) (a2 : Int32) (a3 : Int32) (h : Fr gM m σ0 σ) : FrP gM m σ0 (fX12_tries σ a1 a2 a3) := by
  unfold fX12_tries
  exact (wfX12_tries_0 hm _ _ _ _ h)
theorem wfX12_nextOrder_108 {m : Nat} {σ0 : S2} (hm : 1 ||| m = m) : ∀ (n : Nat) (σ : S2) (x5 : Int32) (x6 : Int32), Fr gM m σ0 σ → FrP gM m σ0 (fX12_nextOrder_108 n σ x5 x6) := by
  intro n
  induction n with
  | zero => intro σ x5 x6 _; exact frp_n
  | succ n ih =>
    intro σ x5 x6 h
    unfold fX12_nextOrder_108
    refine frp_if ?_ ?_
    · skip
      exact frp_s h
    · skip
      refine frp_ck (fun b1 => ?_)
      refine frp_nm (fun v1 => ?_)
      refine frp_ck (fun b2 => ?_)
      refine frp_nm (fun v2 => ?_)
      refine frp_ck (fun b3 => ?_)
      refine frp_w (Fr.wI h (tb_of (g := 0) hm rfl)) (fun σ3 h4 => ?_)
      refine frp_ck (fun b5 => ?_)
      refine frp_w (Fr.wI h4 (tb_of (g := 0) hm rfl)) (fun σ4 h6 => ?_)
      refine frp_nm (fun v5 => ?_)
      refine frp_nm (fun v6 => ?_)
      exact (ih _ _ _ h6)
theorem wfX12_nextOrder_49 {m : Nat} {σ0 : S2} (hm : 1 ||| m = m) : ∀ (n : Nat) (σ : S2) (x1 : Int32) (x2 : Int32) (x3 : Int32), Fr gM m σ0 σ → FrP gM m σ0 (fX12_nextOrder_49 n σ x1 x2 x3) := by
  intro n
  induction n with
  | zero => intro σ x1 x2 x3 _; exact frp_n
  | succ n ih =>
    intro σ x1 x2 x3 h
    unfold fX12_nextOrder_49
    refine frp_ck (fun b1 => ?_)
    refine frp_nm (fun v7 => ?_)
    refine frp_ck (fun b2 => ?_)
    refine frp_nm (fun v8 => ?_)
    refine frp_if ?_ ?_
    · skip
      refine frp_ck (fun b3 => ?_)
      refine frp_nm (fun v9 => ?_)
      refine frp_ck (fun b4 => ?_)
      refine frp_nm (fun v10 => ?_)
      refine frp_ck (fun b5 => ?_)
      refine frp_w (Fr.wI h (tb_of (g := 0) hm rfl)) (fun σ11 h6 => ?_)
      refine frp_ck (fun b7 => ?_)
      refine frp_w (Fr.wI h6 (tb_of (g := 0) hm rfl)) (fun σ12 h8 => ?_)
      refine frp_nm (fun v13 => ?_)
      refine frp_nm (fun v14 => ?_)
      exact (wfX12_nextOrder_108 hm _ _ _ _ h8)
    · skip
      refine frp_nm (fun v15 => ?_)
      exact (ih _ _ _ _ h)
theorem wfX12_nextOrder_39 {m : Nat} {σ0 : S2} (hm : 1 ||| m = m) (σ : S2) (x1 : Int32) (x2 : Int32) (h : Fr gM m σ0 σ) : FrP gM m σ0 (fX12_nextOrder_39 σ x1 x2) := by
  unfold fX12_nextOrder_39
  refine frp_if ?_ ?_
  · skip
    refine frp_nm (fun v16 => ?_)
    exact (wfX12_nextOrder_49 hm _ _ _ _ _ h)
  · skip
    exact frp_s h
theorem wfX12_nextOrder_21 {m : Nat} {σ0 : S2} (hm : 1 ||| m = m) (k4 : S2 → Int32 → Int32 → Option (Int32 × S2)) (hk4 : ∀ (y0 : S2) (y1 : Int32) (y2 : Int32), Fr gM m σ0 y0 → FrP gM m σ0 (k4 y0 y1 y2)) (σ : S2) (x1 : Int32) (x2 : Int32) (s0 : Int32) (h : Fr gM m σ0 σ) : FrP gM m σ0 (fX12_nextOrder_21 k4 σ x1 x2 s0) := by
  unfold fX12_nextOrder_21
  refine frp_ck (fun b1 => ?_)
  refine frp_nm (fun v17 => ?_)
  refine frp_ck (fun b2 => ?_)
  refine frp_nm (fun v18 => ?_)
  refine frp_if ?_ ?_
  · skip
    exact (wfX12_nextOrder_39 hm _ _ _ h)
  · skip
    refine frp_nm (fun v19 => ?_)
    exact (hk4 _ _ _ h)
theorem wfX12_nextOrder_4 {m : Nat} {σ0 : S2} (hm : 1 ||| m = m) : ∀ (n : Nat) (σ : S2) (x1 : Int32) (x2 : Int32), Fr gM m σ0 σ → FrP gM m σ0 (fX12_nextOrder_4 n σ x1 x2) := by
  intro n
  induction n with
  | zero => intro σ x1 x2 _; exact frp_n
  | succ n ih =>
    intro σ x1 x2 h
    unfold fX12_nextOrder_4
    refine frp_if ?_ ?_
    · skip
      exact (wfX12_nextOrder_39 hm _ _ _ h)
    · skip
      refine frp_if ?_ ?_
      · skip
        exact (wfX12_nextOrder_21 hm _ ih _ _ _ _ h)
      · skip
        exact (wfX12_nextOrder_21 hm _ ih _ _ _ _ h)
theorem wfX12_nextOrder_0 {m : Nat} {σ0 : S2} (hm : 1 ||| m = m) (σ : S2) (x1 : Int32) (h : Fr gM m σ0 σ) : FrP gM m σ0 (fX12_nextOrder_0 σ x1) := by
  unfold fX12_nextOrder_0
  refine frp_nm (fun v20 => ?_)
  exact (wfX12_nextOrder_4 hm _ _ _ _ h)
theorem wfX12_nextOrder {m : Nat} {σ0 : S2} (hm : 1 ||| m = m) (σ : S2) (a1 : Int32) (h : Fr gM m σ0 σ) : FrP gM m σ0 (fX12_nextOrder σ a1) := by
  unfold fX12_nextOrder
  exact (wfX12_nextOrder_0 hm _ _ h)
theorem wfX12_order_195 {m : Nat} {σ0 : S2} (hm : 197121 ||| m = m) (k126 : S2 → Int32 → Int32 → Int32 → Option (Int32 × S2)) (hk126 : ∀ (y0 : S2) (y1 : Int32) (y2 : Int32) (y3 : Int32), Fr gM m σ0 y0 → FrP gM m σ0 (k126 y0 y1 y2 y3)) (σ : S2) (x1 : Int32) (x2 : Int32) (h : Fr gM m σ0 σ) : FrP gM m σ0 (fX12_order_195 k126 σ x1 x2) := by
  unfold fX12_order_195
  refine frp_bs (wfX12_nextOrder (tb_sub (a := 197121) rfl hm) _ _ h) (fun r1 σ2 h1 => ?_)
  exact (hk126 _ _ _ _ h1)
theorem wfX12_order_166 {m : Nat} {σ0 : S2} (hm : 197121 ||| m = m) (k126 : S2 → Int32 → Int32 → Int32 → Option (Int32 × S2)) (hk126 : ∀ (y0 : S2) (y1 : Int32) (y2 : Int32) (y3 : Int32), Fr gM m σ0 y0 → FrP gM m σ0 (k126 y0 y1 y2 y3)) : ∀ (n : Nat) (σ : S2) (x1 : Int32) (x2 : Int32) (x5 : Int32), Fr gM m σ0 σ → FrP gM m σ0 (fX12_order_166 k126 n σ x1 x2 x5) := by
  intro n
  induction n with
  | zero => intro σ x1 x2 x5 _; exact frp_n
  | succ n ih =>
    intro σ x1 x2 x5 h
    unfold fX12_order_166
    refine frp_if ?_ ?_
    · skip
      exact (wfX12_order_195 hm _ hk126 _ _ _ h)
    · skip
      refine frp_ck (fun b1 => ?_)
      refine frp_nm (fun v4 => ?_)
      refine frp_ck (fun b2 => ?_)
      refine frp_w (Fr.wI h (tb_of (g := 17) hm rfl)) (fun σ5 h3 => ?_)
      refine frp_nm (fun v6 => ?_)
      exact (ih _ _ _ _ h3)
theorem wfX12_order_152 {m : Nat} {σ0 : S2} (hm : 197121 ||| m = m) (k126 : S2 → Int32 → Int32 → Int32 → Option (Int32 × S2)) (hk126 : ∀ (y0 : S2) (y1 : Int32) (y2 : Int32) (y3 : Int32), Fr gM m σ0 y0 → FrP gM m σ0 (k126 y0 y1 y2 y3)) (σ : S2) (x1 : Int32) (x4 : Int32) (h : Fr gM m σ0 σ) : FrP gM m σ0 (fX12_order_152 k126 σ x1 x4) := by
  unfold fX12_order_152
  refine frp_w (Fr.wI h (tb_of (g := 17) hm rfl)) (fun σ7 h1 => ?_)
  exact (wfX12_order_166 hm _ hk126 _ _ _ _ _ h1)
theorem wfX12_order_126 {m : Nat} {σ0 : S2} (hm : 197121 ||| m = m) : ∀ (n : Nat) (σ : S2) (x1 : Int32) (x2 : Int32) (x3 : Int32), Fr gM m σ0 σ → FrP gM m σ0 (fX12_order_126 n σ x1 x2 x3) := by
  intro n
  induction n with
  | zero => intro σ x1 x2 x3 _; exact frp_n
  | succ n ih =>
    intro σ x1 x2 x3 h
    unfold fX12_order_126
    refine frp_if ?_ ?_
    · skip
      refine frp_if ?_ ?_
      · skip
        refine frp_w (Fr.wI h (tb_of (g := 16) hm rfl)) (fun σ8 h1 => ?_)
        exact frp_s h1
      · skip
        exact frp_s h
    · skip
      refine frp_bi (fun r9 => ?_)
      refine frp_if ?_ ?_
      · skip
        exact (wfX12_order_195 hm _ ih _ _ _ h)
      · skip
        refine frp_if ?_ ?_
        · skip
          exact (wfX12_order_152 hm _ ih _ _ _ h)
        · skip
          refine frp_if ?_ ?_
          · skip
            exact (wfX12_order_195 hm _ ih _ _ _ h)
          · skip
            exact (wfX12_order_152 hm _ ih _ _ _ h)
theorem wfX12_order_101 {m : Nat} {σ0 : S2} (hm : 197121 ||| m = m) : ∀ (n : Nat) (σ : S2) (x1 : Int32) (x2 : Int32), Fr gM m σ0 σ → FrP gM m σ0 (fX12_order_101 n σ x1 x2) := by
  intro n
  induction n with
  | zero => intro σ x1 x2 _; exact frp_n
  | succ n ih =>
    intro σ x1 x2 h
    unfold fX12_order_101
    refine frp_if ?_ ?_
    · skip
      exact (wfX12_order_126 hm _ _ _ _ _ h)
    · skip
      refine frp_ck (fun b1 => ?_)
      refine frp_w (Fr.wI h (tb_of (g := 0) hm rfl)) (fun σ11 h2 => ?_)
      refine frp_nm (fun v12 => ?_)
      exact (ih _ _ _ h2)
theorem wfX12_order_93 {m : Nat} {σ0 : S2} (hm : 197121 ||| m = m) (k19 : S2 → Int32 → Int32 → Option (Int32 × S2)) (hk19 : ∀ (y0 : S2) (y1 : Int32) (y2 : Int32), Fr gM m σ0 y0 → FrP gM m σ0 (k19 y0 y1 y2)) (σ : S2) (x1 : Int32) (x2 : Int32) (h : Fr gM m σ0 σ) : FrP gM m σ0 (fX12_order_93 k19 σ x1 x2) := by
  unfold fX12_order_93
  refine frp_nm (fun v13 => ?_)
  exact (hk19 _ _ _ h)
theorem wfX12_order_57 {m : Nat} {σ0 : S2} (hm : 197121 ||| m = m) (k19 : S2 → Int32 → Int32 → Option (Int32 × S2)) (hk19 : ∀ (y0 : S2) (y1 : Int32) (y2 : Int32), Fr gM m σ0 y0 → FrP gM m σ0 (k19 y0 y1 y2)) : ∀ (n : Nat) (σ : S2) (x1 : Int32) (x2 : Int32) (x3 : Int32), Fr gM m σ0 σ → FrP gM m σ0 (fX12_order_57 k19 n σ x1 x2 x3) := by
  intro n
  induction n with
  | zero => intro σ x1 x2 x3 _; exact frp_n
  | succ n ih =>
    intro σ x1 x2 x3 h
    unfold fX12_order_57
    refine frp_if ?_ ?_
    · skip
      exact (wfX12_order_93 hm _ hk19 _ _ _ h)
    · skip
      refine frp_bs (wfX12_chooseName (tb_sub (a := 197121) rfl hm) _ _ _ h) (fun r14 σ15 h1 => ?_)
      refine frp_bi (fun r17 => ?_)
      refine frp_ck (fun b2 => ?_)
      refine frp_w (Fr.wI h1 (tb_of (g := 0) hm rfl)) (fun σ19 h3 => ?_)
      refine frp_nm (fun v20 => ?_)
      exact (ih _ _ _ _ h3)
theorem wfX12_order_19 {m : Nat} {σ0 : S2} (hm : 197121 ||| m = m) : ∀ (n : Nat) (σ : S2) (x1 : Int32) (x2 : Int32), Fr gM m σ0 σ → FrP gM m σ0 (fX12_order_19 n σ x1 x2) := by
  intro n
  induction n with
  | zero => intro σ x1 x2 _; exact frp_n
  | succ n ih =>
    intro σ x1 x2 h
    unfold fX12_order_19
    refine frp_if ?_ ?_
    · skip
      exact (wfX12_order_101 hm _ _ _ _ h)
    · skip
      refine frp_bi (fun r21 => ?_)
      refine frp_if ?_ ?_
      · skip
        exact (wfX12_order_93 hm _ ih _ _ _ h)
      · skip
        refine frp_bi (fun r23 => ?_)
        refine frp_ck (fun b1 => ?_)
        refine frp_nm (fun v25 => ?_)
        refine frp_bs (wfX12_tries (tb_sub (a := 197121) rfl hm) _ _ _ _ h) (fun r26 σ27 h2 => ?_)
        exact (wfX12_order_57 hm _ ih _ _ _ _ _ h2)
theorem wfX12_order_0 {m : Nat} {σ0 : S2} (hm : 197121 ||| m = m) (σ : S2) (x1 : Int32) (h : Fr gM m σ0 σ) : FrP gM m σ0 (fX12_order_0 σ x1) := by
  unfold fX12_order_0
  refine frp_bi (fun r29 => ?_)
  refine frp_if ?_ ?_
  · skip
    exact frp_s h
  · skip
    refine frp_if ?_ ?_
    · skip
      exact frp_s h
    · skip
      exact (wfX12_order_19 hm _ _ _ _ h)
theorem wfX12_order {m : Nat} {σ0 : S2} (hm : 197121 ||| m = m) (σ : S2) (a1 : Int32) (h : Fr gM m σ0 σ) : FrP gM m σ0 (fX12_order σ a1) := by
  unfold fX12_order
  exact (wfX12_order_0 hm _ _ h)
theorem wfX12_turning_0 {m : Nat} {σ0 : S2} (hm : 262144 ||| m = m) (σ : S2) (x1 : Int32) (h : Fr gM m σ0 σ) : FrP gM m σ0 (fX12_turning_0 σ x1) := by
  unfold fX12_turning_0
  refine frp_if ?_ ?_
  · skip
    exact frp_s h
  · skip
    refine frp_ck (fun b1 => ?_)
    refine frp_w (Fr.wI h (tb_of (g := 18) hm rfl)) (fun σ1 h2 => ?_)
    refine frp_w (Fr.wI h2 (tb_of (g := 18) hm rfl)) (fun σ2 h3 => ?_)
    exact frp_s h3
theorem wfX12_turning {m : Nat} {σ0 : S2} (hm : 262144 ||| m = m) (σ : S2) (a1 : Int32) (h : Fr gM m σ0 σ) : FrP gM m σ0 (fX12_turning σ a1) := by
  unfold fX12_turning
  exact (wfX12_turning_0 hm _ _ h)
theorem wfX12_harm_129 {m : Nat} {σ0 : S2} (hm : 786945 ||| m = m) (k21 : S2 → Int32 → Int32 → Int32 → Option (Int32 × S2)) (hk21 : ∀ (y0 : S2) (y1 : Int32) (y2 : Int32) (y3 : Int32), Fr gM m σ0 y0 → FrP gM m σ0 (k21 y0 y1 y2 y3)) (σ : S2) (x1 : Int32) (x2 : Int32) (x3 : Int32) (h : Fr gM m σ0 σ) : FrP gM m σ0 (fX12_harm_129 k21 σ x1 x2 x3) := by
  unfold fX12_harm_129
  refine frp_nm (fun v1 => ?_)
  exact (hk21 _ _ _ _ h)
theorem wfX12_harm_121 {m : Nat} {σ0 : S2} (hm : 786945 ||| m = m) (k21 : S2 → Int32 → Int32 → Int32 → Option (Int32 × S2)) (hk21 : ∀ (y0 : S2) (y1 : Int32) (y2 : Int32) (y3 : Int32), Fr gM m σ0 y0 → FrP gM m σ0 (k21 y0 y1 y2 y3)) (σ : S2) (x1 : Int32) (x3 : Int32) (x4 : Int32) (h : Fr gM m σ0 σ) : FrP gM m σ0 (fX12_harm_121 k21 σ x1 x3 x4) := by
  unfold fX12_harm_121
  refine frp_w (Fr.wI h (tb_of (g := 19) hm rfl)) (fun σ2 h1 => ?_)
  exact (wfX12_harm_129 hm _ hk21 _ _ _ _ h1)
theorem wfX12_harm_100 {m : Nat} {σ0 : S2} (hm : 786945 ||| m = m) (k52 : S2 → Int32 → Int32 → Int32 → Int32 → Int32 → Option (Int32 × S2)) (hk52 : ∀ (y0 : S2) (y1 : Int32) (y2 : Int32) (y3 : Int32) (y4 : Int32) (y5 : Int32), Fr gM m σ0 y0 → FrP gM m σ0 (k52 y0 y1 y2 y3 y4 y5)) (σ : S2) (x1 : Int32) (x2 : Int32) (x3 : Int32) (x5 : Int32) (s0 : Int32) (h : Fr gM m σ0 σ) : FrP gM m σ0 (fX12_harm_100 k52 σ x1 x2 x3 x5 s0) := by
  unfold fX12_harm_100
  refine frp_nm (fun v3 => ?_)
  exact (hk52 _ _ _ _ _ _ h)
theorem wfX12_harm_84 {m : Nat} {σ0 : S2} (hm : 786945 ||| m = m) (k52 : S2 → Int32 → Int32 → Int32 → Int32 → Int32 → Option (Int32 × S2)) (hk52 : ∀ (y0 : S2) (y1 : Int32) (y2 : Int32) (y3 : Int32) (y4 : Int32) (y5 : Int32), Fr gM m σ0 y0 → FrP gM m σ0 (k52 y0 y1 y2 y3 y4 y5)) (σ : S2) (x1 : Int32) (x2 : Int32) (x3 : Int32) (x4 : Int32) (x5 : Int32) (s0 : Int32) (h : Fr gM m σ0 σ) : FrP gM m σ0 (fX12_harm_84 k52 σ x1 x2 x3 x4 x5 s0) := by
  unfold fX12_harm_84
  refine frp_if ?_ ?_
  · skip
    exact (wfX12_harm_100 hm _ hk52 _ _ _ _ _ _ h)
  · skip
    exact (wfX12_harm_100 hm _ hk52 _ _ _ _ _ _ h)
theorem wfX12_harm_52 {m : Nat} {σ0 : S2} (hm : 786945 ||| m = m) (k21 : S2 → Int32 → Int32 → Int32 → Option (Int32 × S2)) (hk21 : ∀ (y0 : S2) (y1 : Int32) (y2 : Int32) (y3 : Int32), Fr gM m σ0 y0 → FrP gM m σ0 (k21 y0 y1 y2 y3)) : ∀ (n : Nat) (σ : S2) (x1 : Int32) (x2 : Int32) (x3 : Int32) (x4 : Int32) (x5 : Int32), Fr gM m σ0 σ → FrP gM m σ0 (fX12_harm_52 k21 n σ x1 x2 x3 x4 x5) := by
  intro n
  induction n with
  | zero => intro σ x1 x2 x3 x4 x5 _; exact frp_n
  | succ n ih =>
    intro σ x1 x2 x3 x4 x5 h
    unfold fX12_harm_52
    refine frp_if ?_ ?_
    · skip
      refine frp_if ?_ ?_
      · skip
        exact (wfX12_harm_121 hm _ hk21 _ _ _ _ h)
      · skip
        refine frp_if ?_ ?_
        · skip
          exact (wfX12_harm_129 hm _ hk21 _ _ _ _ h)
        · skip
          exact (wfX12_harm_121 hm _ hk21 _ _ _ _ h)
    · skip
      refine frp_bi (fun r4 => ?_)
      refine frp_if ?_ ?_
      · skip
        exact (wfX12_harm_84 hm _ ih _ _ _ _ _ _ _ h)
      · skip
        refine frp_bs (wfX12_shareOf (tb_sub (a := 786945) rfl hm) _ _ _ h) (fun r6 σ7 h1 => ?_)
        exact (wfX12_harm_84 hm _ ih _ _ _ _ _ _ _ h1)
theorem wfX12_harm_21 {m : Nat} {σ0 : S2} (hm : 786945 ||| m = m) : ∀ (n : Nat) (σ : S2) (x1 : Int32) (x2 : Int32) (x3 : Int32), Fr gM m σ0 σ → FrP gM m σ0 (fX12_harm_21 n σ x1 x2 x3) := by
  intro n
  induction n with
  | zero => intro σ x1 x2 x3 _; exact frp_n
  | succ n ih =>
    intro σ x1 x2 x3 h
    unfold fX12_harm_21
    refine frp_if ?_ ?_
    · skip
      refine frp_w (Fr.wI h (tb_of (g := 18) hm rfl)) (fun σ9 h1 => ?_)
      exact frp_s h1
    · skip
      refine frp_ck (fun b2 => ?_)
      refine frp_nm (fun v10 => ?_)
      refine frp_ck (fun b3 => ?_)
      refine frp_nm (fun v11 => ?_)
      refine frp_bs (wfX12_tries (tb_sub (a := 786945) rfl hm) _ _ _ _ h) (fun r12 σ13 h4 => ?_)
      exact (wfX12_harm_52 hm _ ih _ _ _ _ _ _ _ h4)
theorem wfX12_harm_0 {m : Nat} {σ0 : S2} (hm : 786945 ||| m = m) (σ : S2) (x1 : Int32) (h : Fr gM m σ0 σ) : FrP gM m σ0 (fX12_harm_0 σ x1) := by
  unfold fX12_harm_0
  refine frp_bi (fun r15 => ?_)
  refine frp_if ?_ ?_
  · skip
    exact frp_s h
  · skip
    refine frp_if ?_ ?_
    · skip
      exact frp_s h
    · skip
      exact (wfX12_harm_21 hm _ _ _ _ _ h)
theorem wfX12_harm {m : Nat} {σ0 : S2} (hm : 786945 ||| m = m) (σ : S2) (a1 : Int32) (h : Fr gM m σ0 σ) : FrP gM m σ0 (fX12_harm σ a1) := by
  unfold fX12_harm
  exact (wfX12_harm_0 hm _ _ h)
theorem wfX12_begins_19 {m : Nat} {σ0 : S2} (hm : 1048576 ||| m = m) (σ : S2) (h : Fr gM m σ0 σ) : FrP gM m σ0 (fX12_begins_19 σ) := by
  unfold fX12_begins_19
  refine frp_w (Fr.wI h (tb_of (g := 20) hm rfl)) (fun σ1 h1 => ?_)
  exact frp_s h1
theorem wfX12_begins_0 {m : Nat} {σ0 : S2} (hm : 1048576 ||| m = m) (σ : S2) (x1 : Int32) (h : Fr gM m σ0 σ) : FrP gM m σ0 (fX12_begins_0 σ x1) := by
  unfold fX12_begins_0
  refine frp_if ?_ ?_
  · skip
    exact (wfX12_begins_19 hm _ h)
  · skip
    refine frp_ck (fun b1 => ?_)
    refine frp_w (Fr.wI h (tb_of (g := 20) hm rfl)) (fun σ2 h2 => ?_)
    exact (wfX12_begins_19 hm _ h2)
theorem wfX12_begins {m : Nat} {σ0 : S2} (hm : 1048576 ||| m = m) (σ : S2) (a1 : Int32) (h : Fr gM m σ0 σ) : FrP gM m σ0 (fX12_begins σ a1) := by
  unfold fX12_begins
  exact (wfX12_begins_0 hm _ _ h)
theorem wfX12_findsFrom_0 {m : Nat} {σ0 : S2} (hm : 1048576 ||| m = m) (qX12_findsFrom : S2 → Int32 → Int32 → Int32 → Option (Int32 × S2)) (hqX12_findsFrom : ∀ (y0 : S2) (y1 : Int32) (y2 : Int32) (y3 : Int32), Fr gM m σ0 y0 → FrP gM m σ0 (qX12_findsFrom y0 y1 y2 y3)) (σ : S2) (x1 : Int32) (x2 : Int32) (x3 : Int32) (h : Fr gM m σ0 σ) : FrP gM m σ0 (fX12_findsFrom_0 qX12_findsFrom σ x1 x2 x3) := by
  unfold fX12_findsFrom_0
  refine frp_if ?_ ?_
  · skip
    refine frp_bs (wfX12_begins hm _ _ h) (fun r2 σ3 h1 => ?_)
    exact frp_s h1
  · skip
    refine frp_if ?_ ?_
    · skip
      refine frp_bs (wfX12_begins hm _ _ h) (fun r6 σ7 h2 => ?_)
      refine frp_bs (hqX12_findsFrom _ _ _ _ h2) (fun r9 σ10 h3 => ?_)
      refine frp_ck (fun b4 => ?_)
      refine frp_nm (fun v12 => ?_)
      exact frp_s h3
    · skip
      refine frp_if ?_ ?_
      · skip
        refine frp_bi (fun r14 => ?_)
        refine frp_bs (hqX12_findsFrom _ _ _ _ h) (fun r16 σ17 h5 => ?_)
        exact frp_s h5
      · skip
        refine frp_if ?_ ?_
        · skip
          refine frp_bi (fun r20 => ?_)
          refine frp_bs (hqX12_findsFrom _ _ _ _ h) (fun r22 σ23 h6 => ?_)
          exact frp_s h6
        · skip
          refine frp_if ?_ ?_
          · skip
            refine frp_bi (fun r26 => ?_)
            refine frp_bs (hqX12_findsFrom _ _ _ _ h) (fun r28 σ29 h7 => ?_)
            exact frp_s h7
          · skip
            refine frp_if ?_ ?_
            · skip
              refine frp_bs (wfX12_begins hm _ _ h) (fun r32 σ33 h8 => ?_)
              refine frp_bs (hqX12_findsFrom _ _ _ _ h8) (fun r35 σ36 h9 => ?_)
              exact frp_s h9
            · skip
              refine frp_if ?_ ?_
              · skip
                refine frp_bs (wfX12_begins hm _ _ h) (fun r39 σ40 h10 => ?_)
                refine frp_bs (hqX12_findsFrom _ _ _ _ h10) (fun r42 σ43 h11 => ?_)
                exact frp_s h11
              · skip
                refine frp_bi (fun r45 => ?_)
                refine frp_bs (hqX12_findsFrom _ _ _ _ h) (fun r47 σ48 h12 => ?_)
                exact frp_s h12
theorem weX12_findsFrom {m : Nat} {σ0 : S2} (hm : 1048576 ||| m = m) (qX12_findsFrom : S2 → Int32 → Int32 → Int32 → Option (Int32 × S2)) (hqX12_findsFrom : ∀ (y0 : S2) (y1 : Int32) (y2 : Int32) (y3 : Int32), Fr gM m σ0 y0 → FrP gM m σ0 (qX12_findsFrom y0 y1 y2 y3)) (σ : S2) (a1 : Int32) (a2 : Int32) (a3 : Int32) (h : Fr gM m σ0 σ) : FrP gM m σ0 (eX12_findsFrom qX12_findsFrom σ a1 a2 a3) := by
  unfold eX12_findsFrom
  exact (wfX12_findsFrom_0 hm _ hqX12_findsFrom _ _ _ _ h)
theorem wGX12_findsFrom {m : Nat} {σ0 : S2} (hm : 1048576 ||| m = m) : ∀ (d j : Nat) (σ : S2) (a1 : Int32) (a2 : Int32) (a3 : Int32), Fr gM m σ0 σ → FrP gM m σ0 (GX12_findsFrom d j σ a1 a2 a3) := by
  intro d
  induction d with
  | zero => intro j σ a1 a2 a3 _; exact frp_n
  | succ d ih =>
    intro j σ a1 a2 a3 h
    unfold GX12_findsFrom; exact (weX12_findsFrom hm _ (ih 0) _ _ _ _ h)
theorem wfX12_findsFrom {m : Nat} {σ0 : S2} (hm : 1048576 ||| m = m) (σ : S2) (a1 : Int32) (a2 : Int32) (a3 : Int32) (h : Fr gM m σ0 σ) : FrP gM m σ0 (fX12_findsFrom σ a1 a2 a3) := by
  unfold fX12_findsFrom
  exact (wGX12_findsFrom hm _ _ _ _ _ _ h)
theorem wfX12_movesFrom_0 {m : Nat} {σ0 : S2} (hm : 1048576 ||| m = m) (qX12_movesFrom : S2 → Int32 → Int32 → Int32 → Option (Int32 × S2)) (hqX12_movesFrom : ∀ (y0 : S2) (y1 : Int32) (y2 : Int32) (y3 : Int32), Fr gM m σ0 y0 → FrP gM m σ0 (qX12_movesFrom y0 y1 y2 y3)) (σ : S2) (x1 : Int32) (x2 : Int32) (x3 : Int32) (h : Fr gM m σ0 σ) : FrP gM m σ0 (fX12_movesFrom_0 qX12_movesFrom σ x1 x2 x3) := by
  unfold fX12_movesFrom_0
  refine frp_if ?_ ?_
  · skip
    refine frp_bs (wfX12_begins hm _ _ h) (fun r2 σ3 h1 => ?_)
    exact frp_s h1
  · skip
    refine frp_if ?_ ?_
    · skip
      refine frp_bs (wfX12_begins hm _ _ h) (fun r6 σ7 h2 => ?_)
      refine frp_bs (hqX12_movesFrom _ _ _ _ h2) (fun r9 σ10 h3 => ?_)
      exact frp_s h3
    · skip
      refine frp_if ?_ ?_
      · skip
        refine frp_bs (wfX12_begins hm _ _ h) (fun r13 σ14 h4 => ?_)
        refine frp_bs (hqX12_movesFrom _ _ _ _ h4) (fun r16 σ17 h5 => ?_)
        refine frp_ck (fun b6 => ?_)
        refine frp_nm (fun v19 => ?_)
        refine frp_bs (wfX12_findsFrom hm _ _ _ _ h5) (fun r20 σ21 h7 => ?_)
        exact frp_s h7
      · skip
        refine frp_bi (fun r23 => ?_)
        refine frp_bs (hqX12_movesFrom _ _ _ _ h) (fun r25 σ26 h8 => ?_)
        exact frp_s h8
theorem weX12_movesFrom {m : Nat} {σ0 : S2} (hm : 1048576 ||| m = m) (qX12_movesFrom : S2 → Int32 → Int32 → Int32 → Option (Int32 × S2)) (hqX12_movesFrom : ∀ (y0 : S2) (y1 : Int32) (y2 : Int32) (y3 : Int32), Fr gM m σ0 y0 → FrP gM m σ0 (qX12_movesFrom y0 y1 y2 y3)) (σ : S2) (a1 : Int32) (a2 : Int32) (a3 : Int32) (h : Fr gM m σ0 σ) : FrP gM m σ0 (eX12_movesFrom qX12_movesFrom σ a1 a2 a3) := by
  unfold eX12_movesFrom
  exact (wfX12_movesFrom_0 hm _ hqX12_movesFrom _ _ _ _ h)
theorem wGX12_movesFrom {m : Nat} {σ0 : S2} (hm : 1048576 ||| m = m) : ∀ (d j : Nat) (σ : S2) (a1 : Int32) (a2 : Int32) (a3 : Int32), Fr gM m σ0 σ → FrP gM m σ0 (GX12_movesFrom d j σ a1 a2 a3) := by
  intro d
  induction d with
  | zero => intro j σ a1 a2 a3 _; exact frp_n
  | succ d ih =>
    intro j σ a1 a2 a3 h
    unfold GX12_movesFrom; exact (weX12_movesFrom hm _ (ih 0) _ _ _ _ h)
theorem wfX12_movesFrom {m : Nat} {σ0 : S2} (hm : 1048576 ||| m = m) (σ : S2) (a1 : Int32) (a2 : Int32) (a3 : Int32) (h : Fr gM m σ0 σ) : FrP gM m σ0 (fX12_movesFrom σ a1 a2 a3) := by
  unfold fX12_movesFrom
  exact (wGX12_movesFrom hm _ _ _ _ _ _ h)
theorem wfX12_keepsFrom_0 {m : Nat} {σ0 : S2} (hm : 1048576 ||| m = m) (qX12_keepsFrom : S2 → Int32 → Int32 → Int32 → Option (Int32 × S2)) (hqX12_keepsFrom : ∀ (y0 : S2) (y1 : Int32) (y2 : Int32) (y3 : Int32), Fr gM m σ0 y0 → FrP gM m σ0 (qX12_keepsFrom y0 y1 y2 y3)) (σ : S2) (x1 : Int32) (x2 : Int32) (x3 : Int32) (h : Fr gM m σ0 σ) : FrP gM m σ0 (fX12_keepsFrom_0 qX12_keepsFrom σ x1 x2 x3) := by
  unfold fX12_keepsFrom_0
  refine frp_if ?_ ?_
  · skip
    refine frp_bs (wfX12_begins hm _ _ h) (fun r2 σ3 h1 => ?_)
    refine frp_ck (fun b2 => ?_)
    refine frp_nm (fun v5 => ?_)
    refine frp_bs (wfX12_findsFrom hm _ _ _ _ h1) (fun r6 σ7 h3 => ?_)
    exact frp_s h3
  · skip
    refine frp_if ?_ ?_
    · skip
      refine frp_bs (wfX12_begins hm _ _ h) (fun r10 σ11 h4 => ?_)
      refine frp_bs (hqX12_keepsFrom _ _ _ _ h4) (fun r13 σ14 h5 => ?_)
      exact frp_s h5
    · skip
      refine frp_if ?_ ?_
      · skip
        refine frp_bs (wfX12_begins hm _ _ h) (fun r17 σ18 h6 => ?_)
        refine frp_bs (hqX12_keepsFrom _ _ _ _ h6) (fun r20 σ21 h7 => ?_)
        refine frp_bs (wfX12_movesFrom hm _ _ _ _ h7) (fun r23 σ24 h8 => ?_)
        exact frp_s h8
      · skip
        refine frp_bi (fun r26 => ?_)
        refine frp_bs (hqX12_keepsFrom _ _ _ _ h) (fun r28 σ29 h9 => ?_)
        exact frp_s h9
theorem weX12_keepsFrom {m : Nat} {σ0 : S2} (hm : 1048576 ||| m = m) (qX12_keepsFrom : S2 → Int32 → Int32 → Int32 → Option (Int32 × S2)) (hqX12_keepsFrom : ∀ (y0 : S2) (y1 : Int32) (y2 : Int32) (y3 : Int32), Fr gM m σ0 y0 → FrP gM m σ0 (qX12_keepsFrom y0 y1 y2 y3)) (σ : S2) (a1 : Int32) (a2 : Int32) (a3 : Int32) (h : Fr gM m σ0 σ) : FrP gM m σ0 (eX12_keepsFrom qX12_keepsFrom σ a1 a2 a3) := by
  unfold eX12_keepsFrom
  exact (wfX12_keepsFrom_0 hm _ hqX12_keepsFrom _ _ _ _ h)
theorem wGX12_keepsFrom {m : Nat} {σ0 : S2} (hm : 1048576 ||| m = m) : ∀ (d j : Nat) (σ : S2) (a1 : Int32) (a2 : Int32) (a3 : Int32), Fr gM m σ0 σ → FrP gM m σ0 (GX12_keepsFrom d j σ a1 a2 a3) := by
  intro d
  induction d with
  | zero => intro j σ a1 a2 a3 _; exact frp_n
  | succ d ih =>
    intro j σ a1 a2 a3 h
    unfold GX12_keepsFrom; exact (weX12_keepsFrom hm _ (ih 0) _ _ _ _ h)
theorem wfX12_keepsFrom {m : Nat} {σ0 : S2} (hm : 1048576 ||| m = m) (σ : S2) (a1 : Int32) (a2 : Int32) (a3 : Int32) (h : Fr gM m σ0 σ) : FrP gM m σ0 (fX12_keepsFrom σ a1 a2 a3) := by
  unfold fX12_keepsFrom
  exact (wGX12_keepsFrom hm _ _ _ _ _ _ h)
theorem wfX12_tellsFrom_0 {m : Nat} {σ0 : S2} (hm : 1048576 ||| m = m) (qX12_tellsFrom : S2 → Int32 → Int32 → Int32 → Option (Int32 × S2)) (hqX12_tellsFrom : ∀ (y0 : S2) (y1 : Int32) (y2 : Int32) (y3 : Int32), Fr gM m σ0 y0 → FrP gM m σ0 (qX12_tellsFrom y0 y1 y2 y3)) (σ : S2) (x1 : Int32) (x2 : Int32) (x3 : Int32) (h : Fr gM m σ0 σ) : FrP gM m σ0 (fX12_tellsFrom_0 qX12_tellsFrom σ x1 x2 x3) := by
  unfold fX12_tellsFrom_0
  refine frp_if ?_ ?_
  · skip
    refine frp_bs (wfX12_begins hm _ _ h) (fun r2 σ3 h1 => ?_)
    refine frp_ck (fun b2 => ?_)
    refine frp_nm (fun v5 => ?_)
    refine frp_bs (wfX12_keepsFrom hm _ _ _ _ h1) (fun r6 σ7 h3 => ?_)
    refine frp_ck (fun b4 => ?_)
    refine frp_nm (fun v9 => ?_)
    refine frp_bs (wfX12_movesFrom hm _ _ _ _ h3) (fun r10 σ11 h5 => ?_)
    exact frp_s h5
  · skip
    refine frp_if ?_ ?_
    · skip
      refine frp_bs (wfX12_begins hm _ _ h) (fun r14 σ15 h6 => ?_)
      refine frp_bs (hqX12_tellsFrom _ _ _ _ h6) (fun r17 σ18 h7 => ?_)
      exact frp_s h7
    · skip
      refine frp_bi (fun r20 => ?_)
      refine frp_bs (hqX12_tellsFrom _ _ _ _ h) (fun r22 σ23 h8 => ?_)
      exact frp_s h8
theorem weX12_tellsFrom {m : Nat} {σ0 : S2} (hm : 1048576 ||| m = m) (qX12_tellsFrom : S2 → Int32 → Int32 → Int32 → Option (Int32 × S2)) (hqX12_tellsFrom : ∀ (y0 : S2) (y1 : Int32) (y2 : Int32) (y3 : Int32), Fr gM m σ0 y0 → FrP gM m σ0 (qX12_tellsFrom y0 y1 y2 y3)) (σ : S2) (a1 : Int32) (a2 : Int32) (a3 : Int32) (h : Fr gM m σ0 σ) : FrP gM m σ0 (eX12_tellsFrom qX12_tellsFrom σ a1 a2 a3) := by
  unfold eX12_tellsFrom
  exact (wfX12_tellsFrom_0 hm _ hqX12_tellsFrom _ _ _ _ h)
theorem wGX12_tellsFrom {m : Nat} {σ0 : S2} (hm : 1048576 ||| m = m) : ∀ (d j : Nat) (σ : S2) (a1 : Int32) (a2 : Int32) (a3 : Int32), Fr gM m σ0 σ → FrP gM m σ0 (GX12_tellsFrom d j σ a1 a2 a3) := by
  intro d
  induction d with
  | zero => intro j σ a1 a2 a3 _; exact frp_n
  | succ d ih =>
    intro j σ a1 a2 a3 h
    unfold GX12_tellsFrom; exact (weX12_tellsFrom hm _ (ih 0) _ _ _ _ h)
theorem wfX12_tellsFrom {m : Nat} {σ0 : S2} (hm : 1048576 ||| m = m) (σ : S2) (a1 : Int32) (a2 : Int32) (a3 : Int32) (h : Fr gM m σ0 σ) : FrP gM m σ0 (fX12_tellsFrom σ a1 a2 a3) := by
  unfold fX12_tellsFrom
  exact (wGX12_tellsFrom hm _ _ _ _ _ _ h)
theorem wfX12_act_0 {m : Nat} {σ0 : S2} (hm : 1048576 ||| m = m) (σ : S2) (x1 : Int32) (x2 : Int32) (x3 : Int32) (h : Fr gM m σ0 σ) : FrP gM m σ0 (fX12_act_0 σ x1 x2 x3) := by
  unfold fX12_act_0
  refine frp_w (Fr.wI h (tb_of (g := 20) hm rfl)) (fun σ1 h1 => ?_)
  refine frp_bi (fun r2 => ?_)
  refine frp_if ?_ ?_
  · skip
    exact frp_s h1
  · skip
    refine frp_bi (fun r4 => ?_)
    refine frp_if ?_ ?_
    · skip
      exact frp_s h1
    · skip
      refine frp_ck (fun b2 => ?_)
      refine frp_nm (fun v6 => ?_)
      refine frp_if ?_ ?_
      · skip
        refine frp_bs (wfX12_findsFrom hm _ _ _ _ h1) (fun r16 σ17 h3 => ?_)
        exact frp_s h3
      · skip
        refine frp_if ?_ ?_
        · skip
          refine frp_bs (wfX12_keepsFrom hm _ _ _ _ h1) (fun r13 σ14 h4 => ?_)
          exact frp_s h4
        · skip
          refine frp_if ?_ ?_
          · skip
            refine frp_bs (wfX12_movesFrom hm _ _ _ _ h1) (fun r10 σ11 h5 => ?_)
            exact frp_s h5
          · skip
            refine frp_bs (wfX12_tellsFrom hm _ _ _ _ h1) (fun r7 σ8 h6 => ?_)
            exact frp_s h6
theorem wfX12_act {m : Nat} {σ0 : S2} (hm : 1048576 ||| m = m) (σ : S2) (a1 : Int32) (a2 : Int32) (a3 : Int32) (h : Fr gM m σ0 σ) : FrP gM m σ0 (fX12_act σ a1 a2 a3) := by
  unfold fX12_act
  exact (wfX12_act_0 hm _ _ _ _ h)
theorem wfX12_keep_22 {m : Nat} {σ0 : S2} (hm : 2097152 ||| m = m) (σ : S2) (x1 : Int32) (x2 : Int32) (h : Fr gM m σ0 σ) : FrP gM m σ0 (fX12_keep_22 σ x1 x2) := by
  unfold fX12_keep_22
  refine frp_ck (fun b1 => ?_)
  refine frp_w (Fr.wI h (tb_of (g := 21) hm rfl)) (fun σ1 h2 => ?_)
  refine frp_ck (fun b3 => ?_)
  refine frp_w (Fr.wI h2 (tb_of (g := 21) hm rfl)) (fun σ2 h4 => ?_)
  exact frp_s h4
theorem wfX12_keep_0 {m : Nat} {σ0 : S2} (hm : 2097152 ||| m = m) (σ : S2) (x1 : Int32) (x2 : Int32) (h : Fr gM m σ0 σ) : FrP gM m σ0 (fX12_keep_0 σ x1 x2) := by
  unfold fX12_keep_0
  refine frp_bi (fun r3 => ?_)
  refine frp_if ?_ ?_
  · skip
    exact frp_s h
  · skip
    refine frp_if ?_ ?_
    · skip
      exact (wfX12_keep_22 hm _ _ _ h)
    · skip
      refine frp_bi (fun r5 => ?_)
      refine frp_if ?_ ?_
      · skip
        exact frp_s h
      · skip
        exact (wfX12_keep_22 hm _ _ _ h)
theorem wfX12_keep {m : Nat} {σ0 : S2} (hm : 2097152 ||| m = m) (σ : S2) (a1 : Int32) (a2 : Int32) (h : Fr gM m σ0 σ) : FrP gM m σ0 (fX12_keep σ a1 a2) := by
  unfold fX12_keep
  exact (wfX12_keep_0 hm _ _ _ h)
theorem wfX12_row_55 {m : Nat} {σ0 : S2} (hm : 6291456 ||| m = m) : ∀ (n : Nat) (σ : S2) (x1 : Int32) (x4 : Int32), Fr gM m σ0 σ → FrP gM m σ0 (fX12_row_55 n σ x1 x4) := by
  intro n
  induction n with
  | zero => intro σ x1 x4 _; exact frp_n
  | succ n ih =>
    intro σ x1 x4 h
    unfold fX12_row_55
    refine frp_if ?_ ?_
    · skip
      exact frp_s h
    · skip
      refine frp_ck (fun b1 => ?_)
      refine frp_w (Fr.wL h (tb_of (g := 22) hm rfl)) (fun σ1 h2 => ?_)
      refine frp_nm (fun v2 => ?_)
      exact (ih _ _ _ h2)
theorem wfX12_row_0 {m : Nat} {σ0 : S2} (hm : 6291456 ||| m = m) (σ : S2) (x1 : Int32) (x2 : Int32) (x3 : Int32) (h : Fr gM m σ0 σ) : FrP gM m σ0 (fX12_row_0 σ x1 x2 x3) := by
  unfold fX12_row_0
  refine frp_bi (fun r3 => ?_)
  refine frp_if ?_ ?_
  · skip
    exact frp_s h
  · skip
    refine frp_bi (fun r5 => ?_)
    refine frp_if ?_ ?_
    · skip
      exact frp_s h
    · skip
      refine frp_if ?_ ?_
      · skip
        refine frp_if ?_ ?_
        · skip
          refine frp_ck (fun b1 => ?_)
          refine frp_w (Fr.wI h (tb_of (g := 21) hm rfl)) (fun σ7 h2 => ?_)
          refine frp_ck (fun b3 => ?_)
          refine frp_w (Fr.wI h2 (tb_of (g := 21) hm rfl)) (fun σ8 h4 => ?_)
          refine frp_ck (fun b5 => ?_)
          refine frp_w (Fr.wI h4 (tb_of (g := 21) hm rfl)) (fun σ9 h6 => ?_)
          exact (wfX12_row_55 hm _ _ _ _ h6)
        · skip
          exact frp_s h
      · skip
        exact frp_s h
theorem wfX12_row {m : Nat} {σ0 : S2} (hm : 6291456 ||| m = m) (σ : S2) (a1 : Int32) (a2 : Int32) (a3 : Int32) (h : Fr gM m σ0 σ) : FrP gM m σ0 (fX12_row σ a1 a2 a3) := by
  unfold fX12_row
  exact (wfX12_row_0 hm _ _ _ _ h)
theorem wfX12_put_92 {m : Nat} {σ0 : S2} (hm : 4194304 ||| m = m) (σ : S2) (s0 : Int64) (s1 : Int32) (h : Fr gM m σ0 σ) : FrP gM m σ0 (fX12_put_92 σ s0 s1) := by
  unfold fX12_put_92
  refine frp_ck (fun b1 => ?_)
  refine frp_w (Fr.wL h (tb_of (g := 22) hm rfl)) (fun σ1 h2 => ?_)
  exact frp_s h2
theorem wfX12_put_0 {m : Nat} {σ0 : S2} (hm : 4194304 ||| m = m) (σ : S2) (x1 : Int32) (x2 : Int32) (x3 : Int64) (h : Fr gM m σ0 σ) : FrP gM m σ0 (fX12_put_0 σ x1 x2 x3) := by
  unfold fX12_put_0
  refine frp_bi (fun r2 => ?_)
  refine frp_if ?_ ?_
  · skip
    refine frp_ck (fun b1 => ?_)
    refine frp_nm (fun v4 => ?_)
    refine frp_if ?_ ?_
    · skip
      exact (wfX12_put_92 hm _ _ _ h)
    · skip
      refine frp_if ?_ ?_
      · skip
        exact (wfX12_put_92 hm _ _ _ h)
      · skip
        refine frp_if ?_ ?_
        · skip
          exact (wfX12_put_92 hm _ _ _ h)
        · skip
          refine frp_if ?_ ?_
          · skip
            exact (wfX12_put_92 hm _ _ _ h)
          · skip
            refine frp_if ?_ ?_
            · skip
              exact (wfX12_put_92 hm _ _ _ h)
            · skip
              exact (wfX12_put_92 hm _ _ _ h)
  · skip
    exact frp_s h
theorem wfX12_put {m : Nat} {σ0 : S2} (hm : 4194304 ||| m = m) (σ : S2) (a1 : Int32) (a2 : Int32) (a3 : Int64) (h : Fr gM m σ0 σ) : FrP gM m σ0 (fX12_put σ a1 a2 a3) := by
  unfold fX12_put
  exact (wfX12_put_0 hm _ _ _ _ h)
theorem wfX12_shift_193 {m : Nat} {σ0 : S2} (hm : 4194304 ||| m = m) (k167 : S2 → Int32 → Int32 → Int32 → Int32 → Option (Int32 × S2)) (hk167 : ∀ (y0 : S2) (y1 : Int32) (y2 : Int32) (y3 : Int32) (y4 : Int32), Fr gM m σ0 y0 → FrP gM m σ0 (k167 y0 y1 y2 y3 y4)) (σ : S2) (x5 : Int32) (x6 : Int32) (x7 : Int32) (x8 : Int32) (s0 : Int32) (h : Fr gM m σ0 σ) : FrP gM m σ0 (fX12_shift_193 k167 σ x5 x6 x7 x8 s0) := by
  unfold fX12_shift_193
  refine frp_ck (fun b1 => ?_)
  refine frp_nm (fun v1 => ?_)
  refine frp_ck (fun b2 => ?_)
  refine frp_w (Fr.wL h (tb_of (g := 22) hm rfl)) (fun σ2 h3 => ?_)
  refine frp_nm (fun v3 => ?_)
  exact (hk167 _ _ _ _ _ h3)
theorem wfX12_shift_167 {m : Nat} {σ0 : S2} (hm : 4194304 ||| m = m) : ∀ (n : Nat) (σ : S2) (x5 : Int32) (x6 : Int32) (x7 : Int32) (x8 : Int32), Fr gM m σ0 σ → FrP gM m σ0 (fX12_shift_167 n σ x5 x6 x7 x8) := by
  intro n
  induction n with
  | zero => intro σ x5 x6 x7 x8 _; exact frp_n
  | succ n ih =>
    intro σ x5 x6 x7 x8 h
    unfold fX12_shift_167
    refine frp_if ?_ ?_
    · skip
      exact frp_s h
    · skip
      refine frp_if ?_ ?_
      · skip
        exact (wfX12_shift_193 hm _ ih _ _ _ _ _ _ h)
      · skip
        exact (wfX12_shift_193 hm _ ih _ _ _ _ _ _ h)
theorem wfX12_shift_55 {m : Nat} {σ0 : S2} (hm : 4194304 ||| m = m) (σ : S2) (x1 : Int32) (x2 : Int32) (x3 : Int32) (x4 : Int32) (x5 : Int32) (h : Fr gM m σ0 σ) : FrP gM m σ0 (fX12_shift_55 σ x1 x2 x3 x4 x5) := by
  unfold fX12_shift_55
  refine frp_ck (fun b1 => ?_)
  refine frp_nm (fun v4 => ?_)
  refine frp_if ?_ ?_
  · skip
    exact frp_s h
  · skip
    refine frp_ck (fun b2 => ?_)
    refine frp_nm (fun v5 => ?_)
    refine frp_ck (fun b3 => ?_)
    refine frp_nm (fun v6 => ?_)
    refine frp_if ?_ ?_
    · skip
      refine frp_if ?_ ?_
      · skip
        exact frp_s h
      · skip
        refine frp_if ?_ ?_
        · skip
          exact frp_s h
        · skip
          refine frp_if ?_ ?_
          · skip
            exact frp_s h
          · skip
            refine frp_ck (fun b4 => ?_)
            refine frp_nm (fun v7 => ?_)
            refine frp_if ?_ ?_
            · skip
              exact frp_s h
            · skip
              refine frp_ck (fun b5 => ?_)
              refine frp_nm (fun v8 => ?_)
              refine frp_if ?_ ?_
              · skip
                exact frp_s h
              · skip
                refine frp_ck (fun b6 => ?_)
                refine frp_nm (fun v9 => ?_)
                refine frp_if ?_ ?_
                · skip
                  exact frp_s h
                · skip
                  refine frp_ck (fun b7 => ?_)
                  refine frp_nm (fun v10 => ?_)
                  refine frp_if ?_ ?_
                  · skip
                    refine frp_nm (fun v11 => ?_)
                    refine frp_nm (fun v12 => ?_)
                    exact (wfX12_shift_167 hm _ _ _ _ _ _ h)
                  · skip
                    exact frp_s h
    · skip
      exact frp_s h
theorem wfX12_shift_34 {m : Nat} {σ0 : S2} (hm : 4194304 ||| m = m) (σ : S2) (x1 : Int32) (x2 : Int32) (x3 : Int32) (x4 : Int32) (x5 : Int32) (h : Fr gM m σ0 σ) : FrP gM m σ0 (fX12_shift_34 σ x1 x2 x3 x4 x5) := by
  unfold fX12_shift_34
  refine frp_ck (fun b1 => ?_)
  refine frp_nm (fun v13 => ?_)
  refine frp_if ?_ ?_
  · skip
    exact (wfX12_shift_55 hm _ _ _ _ _ _ h)
  · skip
    refine frp_ck (fun b2 => ?_)
    refine frp_nm (fun v14 => ?_)
    refine frp_if ?_ ?_
    · skip
      exact (wfX12_shift_55 hm _ _ _ _ _ _ h)
    · skip
      exact frp_s h
theorem wfX12_shift_0 {m : Nat} {σ0 : S2} (hm : 4194304 ||| m = m) (σ : S2) (x1 : Int32) (x2 : Int32) (x3 : Int32) (x4 : Int32) (x5 : Int32) (h : Fr gM m σ0 σ) : FrP gM m σ0 (fX12_shift_0 σ x1 x2 x3 x4 x5) := by
  unfold fX12_shift_0
  refine frp_bi (fun r15 => ?_)
  refine frp_if ?_ ?_
  · skip
    exact frp_s h
  · skip
    refine frp_bi (fun r17 => ?_)
    refine frp_if ?_ ?_
    · skip
      exact frp_s h
    · skip
      refine frp_ck (fun b1 => ?_)
      refine frp_nm (fun v19 => ?_)
      refine frp_if ?_ ?_
      · skip
        exact (wfX12_shift_34 hm _ _ _ _ _ _ h)
      · skip
        refine frp_ck (fun b2 => ?_)
        refine frp_nm (fun v20 => ?_)
        refine frp_if ?_ ?_
        · skip
          exact frp_s h
        · skip
          exact (wfX12_shift_34 hm _ _ _ _ _ _ h)
theorem wfX12_shift {m : Nat} {σ0 : S2} (hm : 4194304 ||| m = m) (σ : S2) (a1 : Int32) (a2 : Int32) (a3 : Int32) (a4 : Int32) (a5 : Int32) (h : Fr gM m σ0 σ) : FrP gM m σ0 (fX12_shift σ a1 a2 a3 a4 a5) := by
  unfold fX12_shift
  exact (wfX12_shift_0 hm _ _ _ _ _ _ h)
theorem wfX12_names_278 {m : Nat} {σ0 : S2} (hm : 5 ||| m = m) (k82 : S2 → Int32 → Int32 → Int32 → Int32 → Int32 → Int32 → Int32 → Option (Int32 × S2)) (hk82 : ∀ (y0 : S2) (y1 : Int32) (y2 : Int32) (y3 : Int32) (y4 : Int32) (y5 : Int32) (y6 : Int32) (y7 : Int32), Fr gM m σ0 y0 → FrP gM m σ0 (k82 y0 y1 y2 y3 y4 y5 y6 y7)) (σ : S2) (x1 : Int32) (x3 : Int32) (x4 : Int32) (x6 : Int32) (x7 : Int32) (x8 : Int32) (s0 : Int32) (s1 : Int32) (h : Fr gM m σ0 σ) : FrP gM m σ0 (fX12_names_278 k82 σ x1 x3 x4 x6 x7 x8 s0 s1) := by
  unfold fX12_names_278
  refine frp_nm (fun v1 => ?_)
  refine frp_nm (fun v2 => ?_)
  exact (hk82 _ _ _ _ _ _ _ _ h)
theorem wfX12_names_263 {m : Nat} {σ0 : S2} (hm : 5 ||| m = m) (k82 : S2 → Int32 → Int32 → Int32 → Int32 → Int32 → Int32 → Int32 → Option (Int32 × S2)) (hk82 : ∀ (y0 : S2) (y1 : Int32) (y2 : Int32) (y3 : Int32) (y4 : Int32) (y5 : Int32) (y6 : Int32) (y7 : Int32), Fr gM m σ0 y0 → FrP gM m σ0 (k82 y0 y1 y2 y3 y4 y5 y6 y7)) (σ : S2) (x1 : Int32) (x3 : Int32) (x4 : Int32) (x5 : Int32) (x6 : Int32) (x7 : Int32) (x8 : Int32) (x9 : Int32) (h : Fr gM m σ0 σ) : FrP gM m σ0 (fX12_names_263 k82 σ x1 x3 x4 x5 x6 x7 x8 x9) := by
  unfold fX12_names_263
  refine frp_if ?_ ?_
  · skip
    exact (wfX12_names_278 hm _ hk82 _ _ _ _ _ _ _ _ _ h)
  · skip
    exact (wfX12_names_278 hm _ hk82 _ _ _ _ _ _ _ _ _ h)
theorem wfX12_names_242 {m : Nat} {σ0 : S2} (hm : 5 ||| m = m) (k82 : S2 → Int32 → Int32 → Int32 → Int32 → Int32 → Int32 → Int32 → Option (Int32 × S2)) (hk82 : ∀ (y0 : S2) (y1 : Int32) (y2 : Int32) (y3 : Int32) (y4 : Int32) (y5 : Int32) (y6 : Int32) (y7 : Int32), Fr gM m σ0 y0 → FrP gM m σ0 (k82 y0 y1 y2 y3 y4 y5 y6 y7)) (σ : S2) (x1 : Int32) (x3 : Int32) (x4 : Int32) (x5 : Int32) (x6 : Int32) (x8 : Int32) (x9 : Int32) (x10 : Int32) (s0 : Int32) (h : Fr gM m σ0 σ) : FrP gM m σ0 (fX12_names_242 k82 σ x1 x3 x4 x5 x6 x8 x9 x10 s0) := by
  unfold fX12_names_242
  refine frp_if ?_ ?_
  · skip
    exact (wfX12_names_263 hm _ hk82 _ _ _ _ _ _ _ _ _ h)
  · skip
    refine frp_if ?_ ?_
    · skip
      exact (wfX12_names_263 hm _ hk82 _ _ _ _ _ _ _ _ _ h)
    · skip
      refine frp_bs (wfX12_comesName (tb_sub (a := 5) rfl hm) _ _ h) (fun r3 σ4 h1 => ?_)
      refine frp_nm (fun v6 => ?_)
      exact (wfX12_names_263 hm _ hk82 _ _ _ _ _ _ _ _ _ h1)
theorem wfX12_names_241 {m : Nat} {σ0 : S2} (hm : 5 ||| m = m) (k82 : S2 → Int32 → Int32 → Int32 → Int32 → Int32 → Int32 → Int32 → Option (Int32 × S2)) (hk82 : ∀ (y0 : S2) (y1 : Int32) (y2 : Int32) (y3 : Int32) (y4 : Int32) (y5 : Int32) (y6 : Int32) (y7 : Int32), Fr gM m σ0 y0 → FrP gM m σ0 (k82 y0 y1 y2 y3 y4 y5 y6 y7)) (σ : S2) (x1 : Int32) (x3 : Int32) (x4 : Int32) (x5 : Int32) (x6 : Int32) (x8 : Int32) (x9 : Int32) (x10 : Int32) (h : Fr gM m σ0 σ) : FrP gM m σ0 (fX12_names_241 k82 σ x1 x3 x4 x5 x6 x8 x9 x10) := by
  unfold fX12_names_241
  exact (wfX12_names_242 hm _ hk82 _ _ _ _ _ _ _ _ _ _ h)
theorem wfX12_names_237 {m : Nat} {σ0 : S2} (hm : 5 ||| m = m) (k82 : S2 → Int32 → Int32 → Int32 → Int32 → Int32 → Int32 → Int32 → Option (Int32 × S2)) (hk82 : ∀ (y0 : S2) (y1 : Int32) (y2 : Int32) (y3 : Int32) (y4 : Int32) (y5 : Int32) (y6 : Int32) (y7 : Int32), Fr gM m σ0 y0 → FrP gM m σ0 (k82 y0 y1 y2 y3 y4 y5 y6 y7)) (σ : S2) (x1 : Int32) (x3 : Int32) (x4 : Int32) (x5 : Int32) (x6 : Int32) (x8 : Int32) (x9 : Int32) (x10 : Int32) (h : Fr gM m σ0 σ) : FrP gM m σ0 (fX12_names_237 k82 σ x1 x3 x4 x5 x6 x8 x9 x10) := by
  unfold fX12_names_237
  exact (wfX12_names_242 hm _ hk82 _ _ _ _ _ _ _ _ _ _ h)
theorem wfX12_names_216 {m : Nat} {σ0 : S2} (hm : 5 ||| m = m) (k82 : S2 → Int32 → Int32 → Int32 → Int32 → Int32 → Int32 → Int32 → Option (Int32 × S2)) (hk82 : ∀ (y0 : S2) (y1 : Int32) (y2 : Int32) (y3 : Int32) (y4 : Int32) (y5 : Int32) (y6 : Int32) (y7 : Int32), Fr gM m σ0 y0 → FrP gM m σ0 (k82 y0 y1 y2 y3 y4 y5 y6 y7)) (σ : S2) (x1 : Int32) (x3 : Int32) (x4 : Int32) (x5 : Int32) (x6 : Int32) (x7 : Int32) (x8 : Int32) (x9 : Int32) (s0 : Int32) (h : Fr gM m σ0 σ) : FrP gM m σ0 (fX12_names_216 k82 σ x1 x3 x4 x5 x6 x7 x8 x9 s0) := by
  unfold fX12_names_216
  refine frp_if ?_ ?_
  · skip
    exact (wfX12_names_241 hm _ hk82 _ _ _ _ _ _ _ _ _ h)
  · skip
    refine frp_if ?_ ?_
    · skip
      exact (wfX12_names_237 hm _ hk82 _ _ _ _ _ _ _ _ _ h)
    · skip
      refine frp_if ?_ ?_
      · skip
        exact (wfX12_names_241 hm _ hk82 _ _ _ _ _ _ _ _ _ h)
      · skip
        exact (wfX12_names_237 hm _ hk82 _ _ _ _ _ _ _ _ _ h)
theorem wfX12_names_215 {m : Nat} {σ0 : S2} (hm : 5 ||| m = m) (k82 : S2 → Int32 → Int32 → Int32 → Int32 → Int32 → Int32 → Int32 → Option (Int32 × S2)) (hk82 : ∀ (y0 : S2) (y1 : Int32) (y2 : Int32) (y3 : Int32) (y4 : Int32) (y5 : Int32) (y6 : Int32) (y7 : Int32), Fr gM m σ0 y0 → FrP gM m σ0 (k82 y0 y1 y2 y3 y4 y5 y6 y7)) (σ : S2) (x1 : Int32) (x3 : Int32) (x4 : Int32) (x5 : Int32) (x6 : Int32) (x7 : Int32) (x8 : Int32) (x9 : Int32) (h : Fr gM m σ0 σ) : FrP gM m σ0 (fX12_names_215 k82 σ x1 x3 x4 x5 x6 x7 x8 x9) := by
  unfold fX12_names_215
  exact (wfX12_names_216 hm _ hk82 _ _ _ _ _ _ _ _ _ _ h)
theorem wfX12_names_197 {m : Nat} {σ0 : S2} (hm : 5 ||| m = m) (k82 : S2 → Int32 → Int32 → Int32 → Int32 → Int32 → Int32 → Int32 → Option (Int32 × S2)) (hk82 : ∀ (y0 : S2) (y1 : Int32) (y2 : Int32) (y3 : Int32) (y4 : Int32) (y5 : Int32) (y6 : Int32) (y7 : Int32), Fr gM m σ0 y0 → FrP gM m σ0 (k82 y0 y1 y2 y3 y4 y5 y6 y7)) (σ : S2) (x1 : Int32) (x3 : Int32) (x4 : Int32) (x5 : Int32) (x6 : Int32) (x7 : Int32) (x8 : Int32) (x9 : Int32) (h : Fr gM m σ0 σ) : FrP gM m σ0 (fX12_names_197 k82 σ x1 x3 x4 x5 x6 x7 x8 x9) := by
  unfold fX12_names_197
  refine frp_if ?_ ?_
  · skip
    exact (wfX12_names_215 hm _ hk82 _ _ _ _ _ _ _ _ _ h)
  · skip
    refine frp_bi (fun r7 => ?_)
    refine frp_if ?_ ?_
    · skip
      exact (wfX12_names_215 hm _ hk82 _ _ _ _ _ _ _ _ _ h)
    · skip
      exact (wfX12_names_216 hm _ hk82 _ _ _ _ _ _ _ _ _ _ h)
theorem wfX12_names_150 {m : Nat} {σ0 : S2} (hm : 5 ||| m = m) (k82 : S2 → Int32 → Int32 → Int32 → Int32 → Int32 → Int32 → Int32 → Option (Int32 × S2)) (hk82 : ∀ (y0 : S2) (y1 : Int32) (y2 : Int32) (y3 : Int32) (y4 : Int32) (y5 : Int32) (y6 : Int32) (y7 : Int32), Fr gM m σ0 y0 → FrP gM m σ0 (k82 y0 y1 y2 y3 y4 y5 y6 y7)) : ∀ (n : Nat) (σ : S2) (x1 : Int32) (x3 : Int32) (x4 : Int32) (x5 : Int32) (x6 : Int32) (x7 : Int32) (x8 : Int32) (x9 : Int32) (x10 : Int32), Fr gM m σ0 σ → FrP gM m σ0 (fX12_names_150 k82 n σ x1 x3 x4 x5 x6 x7 x8 x9 x10) := by
  intro n
  induction n with
  | zero => intro σ x1 x3 x4 x5 x6 x7 x8 x9 x10 _; exact frp_n
  | succ n ih =>
    intro σ x1 x3 x4 x5 x6 x7 x8 x9 x10 h
    unfold fX12_names_150
    refine frp_if ?_ ?_
    · skip
      exact (wfX12_names_197 hm _ hk82 _ _ _ _ _ _ _ _ _ h)
    · skip
      refine frp_if ?_ ?_
      · skip
        exact (wfX12_names_197 hm _ hk82 _ _ _ _ _ _ _ _ _ h)
      · skip
        refine frp_ck (fun b1 => ?_)
        refine frp_nm (fun v9 => ?_)
        refine frp_ck (fun b2 => ?_)
        refine frp_w (Fr.wI h (tb_of (g := 0) hm rfl)) (fun σ10 h3 => ?_)
        refine frp_nm (fun v11 => ?_)
        exact (ih _ _ _ _ _ _ _ _ _ _ h3)
theorem wfX12_names_145 {m : Nat} {σ0 : S2} (hm : 5 ||| m = m) (k82 : S2 → Int32 → Int32 → Int32 → Int32 → Int32 → Int32 → Int32 → Option (Int32 × S2)) (hk82 : ∀ (y0 : S2) (y1 : Int32) (y2 : Int32) (y3 : Int32) (y4 : Int32) (y5 : Int32) (y6 : Int32) (y7 : Int32), Fr gM m σ0 y0 → FrP gM m σ0 (k82 y0 y1 y2 y3 y4 y5 y6 y7)) (σ : S2) (x1 : Int32) (x3 : Int32) (x4 : Int32) (x5 : Int32) (x6 : Int32) (x8 : Int32) (x9 : Int32) (s0 : Int32) (h : Fr gM m σ0 σ) : FrP gM m σ0 (fX12_names_145 k82 σ x1 x3 x4 x5 x6 x8 x9 s0) := by
  unfold fX12_names_145
  exact (wfX12_names_150 hm _ hk82 _ _ _ _ _ _ _ _ _ _ _ h)
theorem wfX12_names_144 {m : Nat} {σ0 : S2} (hm : 5 ||| m = m) (k82 : S2 → Int32 → Int32 → Int32 → Int32 → Int32 → Int32 → Int32 → Option (Int32 × S2)) (hk82 : ∀ (y0 : S2) (y1 : Int32) (y2 : Int32) (y3 : Int32) (y4 : Int32) (y5 : Int32) (y6 : Int32) (y7 : Int32), Fr gM m σ0 y0 → FrP gM m σ0 (k82 y0 y1 y2 y3 y4 y5 y6 y7)) (σ : S2) (x1 : Int32) (x3 : Int32) (x4 : Int32) (x5 : Int32) (x6 : Int32) (x8 : Int32) (x9 : Int32) (h : Fr gM m σ0 σ) : FrP gM m σ0 (fX12_names_144 k82 σ x1 x3 x4 x5 x6 x8 x9) := by
  unfold fX12_names_144
  exact (wfX12_names_145 hm _ hk82 _ _ _ _ _ _ _ _ _ h)
theorem wfX12_names_117 {m : Nat} {σ0 : S2} (hm : 5 ||| m = m) (k82 : S2 → Int32 → Int32 → Int32 → Int32 → Int32 → Int32 → Int32 → Option (Int32 × S2)) (hk82 : ∀ (y0 : S2) (y1 : Int32) (y2 : Int32) (y3 : Int32) (y4 : Int32) (y5 : Int32) (y6 : Int32) (y7 : Int32), Fr gM m σ0 y0 → FrP gM m σ0 (k82 y0 y1 y2 y3 y4 y5 y6 y7)) (σ : S2) (x1 : Int32) (x3 : Int32) (x4 : Int32) (x5 : Int32) (x6 : Int32) (x8 : Int32) (s0 : Int32) (h : Fr gM m σ0 σ) : FrP gM m σ0 (fX12_names_117 k82 σ x1 x3 x4 x5 x6 x8 s0) := by
  unfold fX12_names_117
  refine frp_bi (fun r12 => ?_)
  refine frp_if ?_ ?_
  · skip
    exact (wfX12_names_144 hm _ hk82 _ _ _ _ _ _ _ _ h)
  · skip
    refine frp_if ?_ ?_
    · skip
      exact (wfX12_names_144 hm _ hk82 _ _ _ _ _ _ _ _ h)
    · skip
      exact (wfX12_names_145 hm _ hk82 _ _ _ _ _ _ _ _ _ h)
theorem wfX12_names_82 {m : Nat} {σ0 : S2} (hm : 5 ||| m = m) : ∀ (n : Nat) (σ : S2) (x1 : Int32) (x3 : Int32) (x4 : Int32) (x5 : Int32) (x6 : Int32) (x7 : Int32) (x8 : Int32), Fr gM m σ0 σ → FrP gM m σ0 (fX12_names_82 n σ x1 x3 x4 x5 x6 x7 x8) := by
  intro n
  induction n with
  | zero => intro σ x1 x3 x4 x5 x6 x7 x8 _; exact frp_n
  | succ n ih =>
    intro σ x1 x3 x4 x5 x6 x7 x8 h
    unfold fX12_names_82
    refine frp_if ?_ ?_
    · skip
      exact frp_s h
    · skip
      refine frp_if ?_ ?_
      · skip
        exact frp_s h
      · skip
        refine frp_if ?_ ?_
        · skip
          exact (wfX12_names_117 hm _ ih _ _ _ _ _ _ _ _ h)
        · skip
          refine frp_ck (fun b1 => ?_)
          refine frp_nm (fun v14 => ?_)
          exact (wfX12_names_117 hm _ ih _ _ _ _ _ _ _ _ h)
theorem wfX12_names_71 {m : Nat} {σ0 : S2} (hm : 5 ||| m = m) (σ : S2) (x1 : Int32) (x3 : Int32) (x4 : Int32) (s0 : Int32) (h : Fr gM m σ0 σ) : FrP gM m σ0 (fX12_names_71 σ x1 x3 x4 s0) := by
  unfold fX12_names_71
  exact (wfX12_names_82 hm _ _ _ _ _ _ _ _ _ h)
theorem wfX12_names_59 {m : Nat} {σ0 : S2} (hm : 5 ||| m = m) (σ : S2) (x1 : Int32) (x2 : Int32) (x3 : Int32) (s0 : Int32) (h : Fr gM m σ0 σ) : FrP gM m σ0 (fX12_names_59 σ x1 x2 x3 s0) := by
  unfold fX12_names_59
  refine frp_if ?_ ?_
  · skip
    exact (wfX12_names_71 hm _ _ _ _ _ h)
  · skip
    exact (wfX12_names_71 hm _ _ _ _ _ h)
theorem wfX12_names_0 {m : Nat} {σ0 : S2} (hm : 5 ||| m = m) (σ : S2) (x1 : Int32) (x2 : Int32) (x3 : Int32) (h : Fr gM m σ0 σ) : FrP gM m σ0 (fX12_names_0 σ x1 x2 x3) := by
  unfold fX12_names_0
  refine frp_bi (fun r15 => ?_)
  refine frp_if ?_ ?_
  · skip
    exact frp_s h
  · skip
    refine frp_bi (fun r17 => ?_)
    refine frp_if ?_ ?_
    · skip
      exact frp_s h
    · skip
      refine frp_ck (fun b1 => ?_)
      refine frp_nm (fun v19 => ?_)
      refine frp_if ?_ ?_
      · skip
        exact frp_s h
      · skip
        refine frp_ck (fun b2 => ?_)
        refine frp_nm (fun v20 => ?_)
        refine frp_if ?_ ?_
        · skip
          refine frp_ck (fun b3 => ?_)
          refine frp_nm (fun v21 => ?_)
          refine frp_if ?_ ?_
          · skip
            refine frp_ck (fun b4 => ?_)
            refine frp_nm (fun v22 => ?_)
            exact (wfX12_names_59 hm _ _ _ _ _ h)
          · skip
            exact (wfX12_names_59 hm _ _ _ _ _ h)
        · skip
          exact frp_s h
theorem wfX12_names {m : Nat} {σ0 : S2} (hm : 5 ||| m = m) (σ : S2) (a1 : Int32) (a2 : Int32) (a3 : Int32) (h : Fr gM m σ0 σ) : FrP gM m σ0 (fX12_names σ a1 a2 a3) := by
  unfold fX12_names
  exact (wfX12_names_0 hm _ _ _ _ h)
