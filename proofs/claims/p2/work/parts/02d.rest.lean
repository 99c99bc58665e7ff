theorem dq_at {c : ByteArray} {l : List (Nat × Instr × Nat)} (h : l.all (fun x => decide (decode c x.1 = .ok x.2)) = true) {i p : Nat} {q : Instr × Nat} (e : l[i]? = some (p, q)) : decode c p = .ok q := of_decide_eq_true (p := decode c p = .ok q) (List.all_eq_true.mp h (p, q) (List.mem_of_getElem? e))
noncomputable def csX7_init : List (List Cond) := [[Cond.code yX7_init cX7_init 1 none], [Cond.methodLink RX7 3 objectInit, Cond.instanceMethod objectInit, Cond.code objectInit ⟨#[0xb1]⟩ 1 none, Cond.arrayClass .int, Cond.fieldLink RX7 9 "SeatsRound$Rows" "keeper" "[I", Cond.fieldLink RX7 15 "SeatsRound$Rows" "sort" "[I", Cond.fieldLink RX7 18 "SeatsRound$Rows" "length" "[I", Cond.classLink RX7 21 "[[J", Cond.arrayClass .long, Cond.fieldLink RX7 23 "SeatsRound$Rows" "elements" "[[J", Cond.methodLink RX7 26 yJ7_fill_53178, Cond.static yJ7_fill_53178, Cond.initialized RJ7, Cond.code yJ7_fill_53178 cJ7_fill_53178 4 none], wsX70]
set_option maxRecDepth 20000 in
theorem ciX7_init : ∀ l ∈ csX7_init, ∀ w ∈ l, w ∈ wsX7_init := by
  unfold csX7_init
  refine List.forall_mem_cons.mpr ⟨fun _ h => List.mem_cons.mpr (Or.inl (List.mem_singleton.mp h)), List.forall_mem_cons.mpr ⟨fun _ h => List.mem_cons_of_mem _ (List.mem_append_left _ h), List.forall_mem_cons.mpr ⟨fun _ h => List.mem_cons_of_mem _ (List.mem_append_right _ h), fun l h => absurd h List.not_mem_nil⟩⟩⟩
set_option maxRecDepth 20000 in
theorem ggX7_init_J7_fill_53178 : GoodIn wsX7_init wsJ7_fill_53178 := goodIn_r2 csX7_init ciX7_init _ [(1, 13)] rfl rfl
set_option maxRecDepth 20000 in
theorem gX7_init_J7_fill_53178 : GoodIn wsX7_init (va_wsS RX7 26 yJ7_fill_53178 wsJ7_fill_53178) := goodIn_app (goodIn_r2 csX7_init ciX7_init _ [(1, 10), (1, 11), (1, 12)] rfl rfl) ggX7_init_J7_fill_53178
theorem daX7_init_R0 : ([(0, .aload_n 0, 1), (1, .invokespecial 3, 3), (4, .aload_n 0, 1), (5, .bipush 6, 2), (7, .newarray .int, 2), (9, .putfield 9, 3), (12, .aload_n 0, 1), (13, .bipush 6, 2), (15, .newarray .int, 2), (17, .putfield 15, 3), (20, .aload_n 0, 1), (21, .bipush 6, 2), (23, .newarray .int, 2), (25, .putfield 18, 3), (28, .aload_n 0, 1), (29, .bipush 6, 2), (31, .bipush 60, 2), (33, .multianewarray 21 2, 4), (37, .putfield 23, 3), (40, .aload_n 0, 1), (41, .getfield 9, 3), (44, .iconst (-1), 1), (45, .invokestatic 26, 3), (48, .aload_n 0, 1), (49, .getfield 15, 3), (52, .iconst (-1), 1), (53, .invokestatic 26, 3), (56, .return_, 1)] : List (Nat × Instr × Nat)).all (fun x => decide (decode cX7_init x.1 = .ok x.2)) = true := by decide +kernel
theorem dX7_init_0 : decode cX7_init 0 = .ok (.aload_n 0, 1) := dq_at daX7_init_R0 (i := 0) rfl
theorem dX7_init_1 : decode cX7_init 1 = .ok (.invokespecial 3, 3) := dq_at daX7_init_R0 (i := 1) rfl
theorem dX7_init_4 : decode cX7_init 4 = .ok (.aload_n 0, 1) := dq_at daX7_init_R0 (i := 2) rfl
theorem dX7_init_5 : decode cX7_init 5 = .ok (.bipush 6, 2) := dq_at daX7_init_R0 (i := 3) rfl
theorem dX7_init_7 : decode cX7_init 7 = .ok (.newarray .int, 2) := dq_at daX7_init_R0 (i := 4) rfl
theorem dX7_init_9 : decode cX7_init 9 = .ok (.putfield 9, 3) := dq_at daX7_init_R0 (i := 5) rfl
theorem dX7_init_12 : decode cX7_init 12 = .ok (.aload_n 0, 1) := dq_at daX7_init_R0 (i := 6) rfl
theorem dX7_init_13 : decode cX7_init 13 = .ok (.bipush 6, 2) := dq_at daX7_init_R0 (i := 7) rfl
theorem dX7_init_15 : decode cX7_init 15 = .ok (.newarray .int, 2) := dq_at daX7_init_R0 (i := 8) rfl
theorem dX7_init_17 : decode cX7_init 17 = .ok (.putfield 15, 3) := dq_at daX7_init_R0 (i := 9) rfl
theorem dX7_init_20 : decode cX7_init 20 = .ok (.aload_n 0, 1) := dq_at daX7_init_R0 (i := 10) rfl
theorem dX7_init_21 : decode cX7_init 21 = .ok (.bipush 6, 2) := dq_at daX7_init_R0 (i := 11) rfl
theorem dX7_init_23 : decode cX7_init 23 = .ok (.newarray .int, 2) := dq_at daX7_init_R0 (i := 12) rfl
theorem dX7_init_25 : decode cX7_init 25 = .ok (.putfield 18, 3) := dq_at daX7_init_R0 (i := 13) rfl
theorem dX7_init_28 : decode cX7_init 28 = .ok (.aload_n 0, 1) := dq_at daX7_init_R0 (i := 14) rfl
theorem dX7_init_29 : decode cX7_init 29 = .ok (.bipush 6, 2) := dq_at daX7_init_R0 (i := 15) rfl
theorem dX7_init_31 : decode cX7_init 31 = .ok (.bipush 60, 2) := dq_at daX7_init_R0 (i := 16) rfl
theorem dX7_init_33 : decode cX7_init 33 = .ok (.multianewarray 21 2, 4) := dq_at daX7_init_R0 (i := 17) rfl
theorem dX7_init_37 : decode cX7_init 37 = .ok (.putfield 23, 3) := dq_at daX7_init_R0 (i := 18) rfl
theorem dX7_init_40 : decode cX7_init 40 = .ok (.aload_n 0, 1) := dq_at daX7_init_R0 (i := 19) rfl
theorem dX7_init_41 : decode cX7_init 41 = .ok (.getfield 9, 3) := dq_at daX7_init_R0 (i := 20) rfl
theorem dX7_init_44 : decode cX7_init 44 = .ok (.iconst (-1), 1) := dq_at daX7_init_R0 (i := 21) rfl
theorem dX7_init_45 : decode cX7_init 45 = .ok (.invokestatic 26, 3) := dq_at daX7_init_R0 (i := 22) rfl
theorem dX7_init_48 : decode cX7_init 48 = .ok (.aload_n 0, 1) := dq_at daX7_init_R0 (i := 23) rfl
theorem dX7_init_49 : decode cX7_init 49 = .ok (.getfield 15, 3) := dq_at daX7_init_R0 (i := 24) rfl
theorem dX7_init_52 : decode cX7_init 52 = .ok (.iconst (-1), 1) := dq_at daX7_init_R0 (i := 25) rfl
theorem dX7_init_53 : decode cX7_init 53 = .ok (.invokestatic 26, 3) := dq_at daX7_init_R0 (i := 26) rfl
theorem dX7_init_56 : decode cX7_init 56 = .ok (.return_, 1) := dq_at daX7_init_R0 (i := 27) rfl
theorem daX7_holdKeeper_R1 : ([(0, .aload_n 0, 1), (1, .getfield 9, 3), (4, .iload_n 1, 1), (5, .iload_n 2, 1), (6, .iastore, 1), (7, .aload_n 0, 1), (8, .getfield 15, 3), (11, .iload_n 1, 1), (12, .iconst (-1), 1), (13, .iastore, 1), (14, .aload_n 0, 1), (15, .getfield 18, 3), (18, .iload_n 1, 1), (19, .iconst 0, 1), (20, .iastore, 1), (21, .return_, 1)] : List (Nat × Instr × Nat)).all (fun x => decide (decode cX7_holdKeeper x.1 = .ok x.2)) = true := by decide +kernel
theorem dX7_holdKeeper_0 : decode cX7_holdKeeper 0 = .ok (.aload_n 0, 1) := dq_at daX7_holdKeeper_R1 (i := 0) rfl
theorem dX7_holdKeeper_1 : decode cX7_holdKeeper 1 = .ok (.getfield 9, 3) := dq_at daX7_holdKeeper_R1 (i := 1) rfl
theorem dX7_holdKeeper_4 : decode cX7_holdKeeper 4 = .ok (.iload_n 1, 1) := dq_at daX7_holdKeeper_R1 (i := 2) rfl
theorem dX7_holdKeeper_5 : decode cX7_holdKeeper 5 = .ok (.iload_n 2, 1) := dq_at daX7_holdKeeper_R1 (i := 3) rfl
theorem dX7_holdKeeper_6 : decode cX7_holdKeeper 6 = .ok (.iastore, 1) := dq_at daX7_holdKeeper_R1 (i := 4) rfl
theorem dX7_holdKeeper_7 : decode cX7_holdKeeper 7 = .ok (.aload_n 0, 1) := dq_at daX7_holdKeeper_R1 (i := 5) rfl
theorem dX7_holdKeeper_8 : decode cX7_holdKeeper 8 = .ok (.getfield 15, 3) := dq_at daX7_holdKeeper_R1 (i := 6) rfl
theorem dX7_holdKeeper_11 : decode cX7_holdKeeper 11 = .ok (.iload_n 1, 1) := dq_at daX7_holdKeeper_R1 (i := 7) rfl
theorem dX7_holdKeeper_12 : decode cX7_holdKeeper 12 = .ok (.iconst (-1), 1) := dq_at daX7_holdKeeper_R1 (i := 8) rfl
theorem dX7_holdKeeper_13 : decode cX7_holdKeeper 13 = .ok (.iastore, 1) := dq_at daX7_holdKeeper_R1 (i := 9) rfl
theorem dX7_holdKeeper_14 : decode cX7_holdKeeper 14 = .ok (.aload_n 0, 1) := dq_at daX7_holdKeeper_R1 (i := 10) rfl
theorem dX7_holdKeeper_15 : decode cX7_holdKeeper 15 = .ok (.getfield 18, 3) := dq_at daX7_holdKeeper_R1 (i := 11) rfl
theorem dX7_holdKeeper_18 : decode cX7_holdKeeper 18 = .ok (.iload_n 1, 1) := dq_at daX7_holdKeeper_R1 (i := 12) rfl
theorem dX7_holdKeeper_19 : decode cX7_holdKeeper 19 = .ok (.iconst 0, 1) := dq_at daX7_holdKeeper_R1 (i := 13) rfl
theorem dX7_holdKeeper_20 : decode cX7_holdKeeper 20 = .ok (.iastore, 1) := dq_at daX7_holdKeeper_R1 (i := 14) rfl
theorem dX7_holdKeeper_21 : decode cX7_holdKeeper 21 = .ok (.return_, 1) := dq_at daX7_holdKeeper_R1 (i := 15) rfl
noncomputable def csX7_holdRow : List (List Cond) := [[Cond.code yX7_holdRow cX7_holdRow 4 none], [Cond.fieldLink RX7 9 "SeatsRound$Rows" "keeper" "[I", Cond.fieldLink RX7 15 "SeatsRound$Rows" "sort" "[I", Cond.fieldLink RX7 18 "SeatsRound$Rows" "length" "[I", Cond.fieldLink RX7 23 "SeatsRound$Rows" "elements" "[[J", Cond.methodLink RX7 32 yJ7_fill_d0a16, Cond.static yJ7_fill_d0a16, Cond.initialized RJ7, Cond.code yJ7_fill_d0a16 cJ7_fill_d0a16 5 none], wsX70]
set_option maxRecDepth 20000 in
theorem ciX7_holdRow : ∀ l ∈ csX7_holdRow, ∀ w ∈ l, w ∈ wsX7_holdRow := by
  unfold csX7_holdRow
  refine List.forall_mem_cons.mpr ⟨fun _ h => List.mem_cons.mpr (Or.inl (List.mem_singleton.mp h)), List.forall_mem_cons.mpr ⟨fun _ h => List.mem_cons_of_mem _ (List.mem_append_left _ h), List.forall_mem_cons.mpr ⟨fun _ h => List.mem_cons_of_mem _ (List.mem_append_right _ h), fun l h => absurd h List.not_mem_nil⟩⟩⟩
set_option maxRecDepth 20000 in
theorem ggX7_holdRow_J7_fill_d0a16 : GoodIn wsX7_holdRow wsJ7_fill_d0a16 := goodIn_r2 csX7_holdRow ciX7_holdRow _ [(1, 7)] rfl rfl
set_option maxRecDepth 20000 in
theorem gX7_holdRow_J7_fill_d0a16 : GoodIn wsX7_holdRow (va_wsS RX7 32 yJ7_fill_d0a16 wsJ7_fill_d0a16) := goodIn_app (goodIn_r2 csX7_holdRow ciX7_holdRow _ [(1, 4), (1, 5), (1, 6)] rfl rfl) ggX7_holdRow_J7_fill_d0a16
theorem daX7_holdRow_R2 : ([(0, .aload_n 0, 1), (1, .getfield 9, 3), (4, .iload_n 1, 1), (5, .iconst (-1), 1), (6, .iastore, 1), (7, .aload_n 0, 1), (8, .getfield 15, 3), (11, .iload_n 1, 1), (12, .iload_n 2, 1), (13, .iastore, 1), (14, .aload_n 0, 1), (15, .getfield 18, 3), (18, .iload_n 1, 1), (19, .iload_n 3, 1), (20, .iastore, 1), (21, .aload_n 0, 1), (22, .getfield 23, 3), (25, .iload_n 1, 1), (26, .aaload, 1), (27, .lconst 0, 1), (28, .invokestatic 32, 3), (31, .return_, 1)] : List (Nat × Instr × Nat)).all (fun x => decide (decode cX7_holdRow x.1 = .ok x.2)) = true := by decide +kernel
theorem dX7_holdRow_0 : decode cX7_holdRow 0 = .ok (.aload_n 0, 1) := dq_at daX7_holdRow_R2 (i := 0) rfl
theorem dX7_holdRow_1 : decode cX7_holdRow 1 = .ok (.getfield 9, 3) := dq_at daX7_holdRow_R2 (i := 1) rfl
theorem dX7_holdRow_4 : decode cX7_holdRow 4 = .ok (.iload_n 1, 1) := dq_at daX7_holdRow_R2 (i := 2) rfl
theorem dX7_holdRow_5 : decode cX7_holdRow 5 = .ok (.iconst (-1), 1) := dq_at daX7_holdRow_R2 (i := 3) rfl
theorem dX7_holdRow_6 : decode cX7_holdRow 6 = .ok (.iastore, 1) := dq_at daX7_holdRow_R2 (i := 4) rfl
theorem dX7_holdRow_7 : decode cX7_holdRow 7 = .ok (.aload_n 0, 1) := dq_at daX7_holdRow_R2 (i := 5) rfl
theorem dX7_holdRow_8 : decode cX7_holdRow 8 = .ok (.getfield 15, 3) := dq_at daX7_holdRow_R2 (i := 6) rfl
theorem dX7_holdRow_11 : decode cX7_holdRow 11 = .ok (.iload_n 1, 1) := dq_at daX7_holdRow_R2 (i := 7) rfl
theorem dX7_holdRow_12 : decode cX7_holdRow 12 = .ok (.iload_n 2, 1) := dq_at daX7_holdRow_R2 (i := 8) rfl
theorem dX7_holdRow_13 : decode cX7_holdRow 13 = .ok (.iastore, 1) := dq_at daX7_holdRow_R2 (i := 9) rfl
theorem dX7_holdRow_14 : decode cX7_holdRow 14 = .ok (.aload_n 0, 1) := dq_at daX7_holdRow_R2 (i := 10) rfl
theorem dX7_holdRow_15 : decode cX7_holdRow 15 = .ok (.getfield 18, 3) := dq_at daX7_holdRow_R2 (i := 11) rfl
theorem dX7_holdRow_18 : decode cX7_holdRow 18 = .ok (.iload_n 1, 1) := dq_at daX7_holdRow_R2 (i := 12) rfl
theorem dX7_holdRow_19 : decode cX7_holdRow 19 = .ok (.iload_n 3, 1) := dq_at daX7_holdRow_R2 (i := 13) rfl
theorem dX7_holdRow_20 : decode cX7_holdRow 20 = .ok (.iastore, 1) := dq_at daX7_holdRow_R2 (i := 14) rfl
theorem dX7_holdRow_21 : decode cX7_holdRow 21 = .ok (.aload_n 0, 1) := dq_at daX7_holdRow_R2 (i := 15) rfl
theorem dX7_holdRow_22 : decode cX7_holdRow 22 = .ok (.getfield 23, 3) := dq_at daX7_holdRow_R2 (i := 16) rfl
theorem dX7_holdRow_25 : decode cX7_holdRow 25 = .ok (.iload_n 1, 1) := dq_at daX7_holdRow_R2 (i := 17) rfl
theorem dX7_holdRow_26 : decode cX7_holdRow 26 = .ok (.aaload, 1) := dq_at daX7_holdRow_R2 (i := 18) rfl
theorem dX7_holdRow_27 : decode cX7_holdRow 27 = .ok (.lconst 0, 1) := dq_at daX7_holdRow_R2 (i := 19) rfl
theorem dX7_holdRow_28 : decode cX7_holdRow 28 = .ok (.invokestatic 32, 3) := dq_at daX7_holdRow_R2 (i := 20) rfl
theorem dX7_holdRow_31 : decode cX7_holdRow 31 = .ok (.return_, 1) := dq_at daX7_holdRow_R2 (i := 21) rfl
theorem daX7_isEmpty_R3 : ([(0, .aload_n 0, 1), (1, .getfield 15, 3), (4, .iload_n 1, 1), (5, .iaload, 1), (6, .iconst (-1), 1), (7, .if_icmp .ne 17, 3), (10, .aload_n 0, 1), (11, .getfield 9, 3), (14, .iload_n 1, 1), (15, .iaload, 1), (16, .iconst (-1), 1), (17, .if_icmp .ne 7, 3), (20, .iconst 1, 1), (21, .goto 4, 3), (25, .ireturn, 1)] : List (Nat × Instr × Nat)).all (fun x => decide (decode cX7_isEmpty x.1 = .ok x.2)) = true := by decide +kernel
theorem dX7_isEmpty_0 : decode cX7_isEmpty 0 = .ok (.aload_n 0, 1) := dq_at daX7_isEmpty_R3 (i := 0) rfl
theorem dX7_isEmpty_1 : decode cX7_isEmpty 1 = .ok (.getfield 15, 3) := dq_at daX7_isEmpty_R3 (i := 1) rfl
theorem dX7_isEmpty_4 : decode cX7_isEmpty 4 = .ok (.iload_n 1, 1) := dq_at daX7_isEmpty_R3 (i := 2) rfl
theorem dX7_isEmpty_5 : decode cX7_isEmpty 5 = .ok (.iaload, 1) := dq_at daX7_isEmpty_R3 (i := 3) rfl
theorem dX7_isEmpty_6 : decode cX7_isEmpty 6 = .ok (.iconst (-1), 1) := dq_at daX7_isEmpty_R3 (i := 4) rfl
theorem dX7_isEmpty_7 : decode cX7_isEmpty 7 = .ok (.if_icmp .ne 17, 3) := dq_at daX7_isEmpty_R3 (i := 5) rfl
theorem dX7_isEmpty_10 : decode cX7_isEmpty 10 = .ok (.aload_n 0, 1) := dq_at daX7_isEmpty_R3 (i := 6) rfl
theorem dX7_isEmpty_11 : decode cX7_isEmpty 11 = .ok (.getfield 9, 3) := dq_at daX7_isEmpty_R3 (i := 7) rfl
theorem dX7_isEmpty_14 : decode cX7_isEmpty 14 = .ok (.iload_n 1, 1) := dq_at daX7_isEmpty_R3 (i := 8) rfl
theorem dX7_isEmpty_15 : decode cX7_isEmpty 15 = .ok (.iaload, 1) := dq_at daX7_isEmpty_R3 (i := 9) rfl
theorem dX7_isEmpty_16 : decode cX7_isEmpty 16 = .ok (.iconst (-1), 1) := dq_at daX7_isEmpty_R3 (i := 10) rfl
theorem dX7_isEmpty_17 : decode cX7_isEmpty 17 = .ok (.if_icmp .ne 7, 3) := dq_at daX7_isEmpty_R3 (i := 11) rfl
theorem dX7_isEmpty_20 : decode cX7_isEmpty 20 = .ok (.iconst 1, 1) := dq_at daX7_isEmpty_R3 (i := 12) rfl
theorem dX7_isEmpty_21 : decode cX7_isEmpty 21 = .ok (.goto 4, 3) := dq_at daX7_isEmpty_R3 (i := 13) rfl
theorem dX7_isEmpty_25 : decode cX7_isEmpty 25 = .ok (.ireturn, 1) := dq_at daX7_isEmpty_R3 (i := 14) rfl
noncomputable def csX7_refusalAt : List (List Cond) := [[Cond.code yX7_refusalAt cX7_refusalAt 3 (some .int)], [Cond.fieldLink RX7 18 "SeatsRound$Rows" "length" "[I", Cond.methodLink RX7 35 yX7_isEmpty, Cond.instanceMethod yX7_isEmpty, Cond.selects RX7 yX7_isEmpty yX7_isEmpty, Cond.initialized RX7, Cond.code yX7_isEmpty cX7_isEmpty 2 (some .boolean), Cond.fieldLink RX7 15 "SeatsRound$Rows" "sort" "[I", Cond.fieldLink RX7 9 "SeatsRound$Rows" "keeper" "[I", Cond.methodLink RX7 39 yX7_isRow, Cond.instanceMethod yX7_isRow, Cond.selects RX7 yX7_isRow yX7_isRow, Cond.code yX7_isRow cX7_isRow 2 (some .boolean)], wsX70]
set_option maxRecDepth 20000 in
theorem ciX7_refusalAt : ∀ l ∈ csX7_refusalAt, ∀ w ∈ l, w ∈ wsX7_refusalAt := by
  unfold csX7_refusalAt
  refine List.forall_mem_cons.mpr ⟨fun _ h => List.mem_cons.mpr (Or.inl (List.mem_singleton.mp h)), List.forall_mem_cons.mpr ⟨fun _ h => List.mem_cons_of_mem _ (List.mem_append_left _ h), List.forall_mem_cons.mpr ⟨fun _ h => List.mem_cons_of_mem _ (List.mem_append_right _ h), fun l h => absurd h List.not_mem_nil⟩⟩⟩
set_option maxRecDepth 20000 in
theorem ggX7_refusalAt_X7_isEmpty : GoodIn wsX7_refusalAt wsX7_isEmpty := goodIn_r2 csX7_refusalAt ciX7_refusalAt _ [(1, 5), (1, 6), (1, 7), (2, 0), (2, 1), (2, 2), (2, 3)] rfl rfl
set_option maxRecDepth 20000 in
theorem gX7_refusalAt_X7_isEmpty : GoodIn wsX7_refusalAt (wsV RX7 35 RX7 yX7_isEmpty wsX7_isEmpty) := goodIn_app (goodIn_r2 csX7_refusalAt ciX7_refusalAt _ [(1, 1), (1, 2), (1, 3), (1, 4)] rfl rfl) ggX7_refusalAt_X7_isEmpty
theorem daX7_refusalAt_R4 : ([(0, .aload_n 0, 1), (1, .iload_n 1, 1), (2, .invokevirtual 35, 3), (5, .ifCond .eq 6, 3), (8, .bipush (-11), 2), (10, .ireturn, 1)] : List (Nat × Instr × Nat)).all (fun x => decide (decode cX7_refusalAt x.1 = .ok x.2)) = true := by decide +kernel
theorem dX7_refusalAt_0 : decode cX7_refusalAt 0 = .ok (.aload_n 0, 1) := dq_at daX7_refusalAt_R4 (i := 0) rfl
theorem dX7_refusalAt_1 : decode cX7_refusalAt 1 = .ok (.iload_n 1, 1) := dq_at daX7_refusalAt_R4 (i := 1) rfl
theorem dX7_refusalAt_2 : decode cX7_refusalAt 2 = .ok (.invokevirtual 35, 3) := dq_at daX7_refusalAt_R4 (i := 2) rfl
theorem dX7_refusalAt_5 : decode cX7_refusalAt 5 = .ok (.ifCond .eq 6, 3) := dq_at daX7_refusalAt_R4 (i := 3) rfl
theorem dX7_refusalAt_8 : decode cX7_refusalAt 8 = .ok (.bipush (-11), 2) := dq_at daX7_refusalAt_R4 (i := 4) rfl
theorem dX7_refusalAt_10 : decode cX7_refusalAt 10 = .ok (.ireturn, 1) := dq_at daX7_refusalAt_R4 (i := 5) rfl
theorem daX8_init_R5 : ([(0, .aload_n 0, 1), (1, .invokespecial 3, 3), (4, .aload_n 0, 1), (5, .iconst 0, 1), (6, .putfield 9, 3), (9, .aload_n 0, 1), (10, .iconst 0, 1), (11, .putfield 15, 3), (14, .aload_n 0, 1), (15, .iconst 1, 1), (16, .putfield 18, 3), (19, .aload_n 0, 1), (20, .iconst 1, 1), (21, .putfield 21, 3), (24, .aload_n 0, 1), (25, .iconst 0, 1), (26, .putfield 24, 3), (29, .aload_n 0, 1), (30, .iconst 0, 1), (31, .putfield 27, 3), (34, .aload_n 0, 1), (35, .iconst 0, 1), (36, .putfield 30, 3), (39, .aload_n 0, 1), (40, .iconst 0, 1), (41, .putfield 33, 3), (44, .aload_n 0, 1), (45, .bipush 12, 2), (47, .newarray .int, 2), (49, .putfield 37, 3), (52, .aload_n 0, 1), (53, .bipush 12, 2), (55, .newarray .int, 2), (57, .putfield 41, 3), (60, .aload_n 0, 1), (61, .bipush 80, 2), (63, .newarray .byte, 2), (65, .putfield 44, 3), (68, .aload_n 0, 1), (69, .sipush 1000, 3), (72, .newarray .byte, 2), (74, .putfield 48, 3), (77, .aload_n 0, 1), (78, .sipush 1000, 3), (81, .newarray .short, 2), (83, .putfield 51, 3), (86, .return_, 1)] : List (Nat × Instr × Nat)).all (fun x => decide (decode cX8_init x.1 = .ok x.2)) = true := by decide +kernel
theorem dX8_init_0 : decode cX8_init 0 = .ok (.aload_n 0, 1) := dq_at daX8_init_R5 (i := 0) rfl
theorem dX8_init_1 : decode cX8_init 1 = .ok (.invokespecial 3, 3) := dq_at daX8_init_R5 (i := 1) rfl
theorem dX8_init_4 : decode cX8_init 4 = .ok (.aload_n 0, 1) := dq_at daX8_init_R5 (i := 2) rfl
theorem dX8_init_5 : decode cX8_init 5 = .ok (.iconst 0, 1) := dq_at daX8_init_R5 (i := 3) rfl
theorem dX8_init_6 : decode cX8_init 6 = .ok (.putfield 9, 3) := dq_at daX8_init_R5 (i := 4) rfl
theorem dX8_init_9 : decode cX8_init 9 = .ok (.aload_n 0, 1) := dq_at daX8_init_R5 (i := 5) rfl
theorem dX8_init_10 : decode cX8_init 10 = .ok (.iconst 0, 1) := dq_at daX8_init_R5 (i := 6) rfl
theorem dX8_init_11 : decode cX8_init 11 = .ok (.putfield 15, 3) := dq_at daX8_init_R5 (i := 7) rfl
theorem dX8_init_14 : decode cX8_init 14 = .ok (.aload_n 0, 1) := dq_at daX8_init_R5 (i := 8) rfl
theorem dX8_init_15 : decode cX8_init 15 = .ok (.iconst 1, 1) := dq_at daX8_init_R5 (i := 9) rfl
theorem dX8_init_16 : decode cX8_init 16 = .ok (.putfield 18, 3) := dq_at daX8_init_R5 (i := 10) rfl
theorem dX8_init_19 : decode cX8_init 19 = .ok (.aload_n 0, 1) := dq_at daX8_init_R5 (i := 11) rfl
theorem dX8_init_20 : decode cX8_init 20 = .ok (.iconst 1, 1) := dq_at daX8_init_R5 (i := 12) rfl
theorem dX8_init_21 : decode cX8_init 21 = .ok (.putfield 21, 3) := dq_at daX8_init_R5 (i := 13) rfl
theorem dX8_init_24 : decode cX8_init 24 = .ok (.aload_n 0, 1) := dq_at daX8_init_R5 (i := 14) rfl
theorem dX8_init_25 : decode cX8_init 25 = .ok (.iconst 0, 1) := dq_at daX8_init_R5 (i := 15) rfl
theorem dX8_init_26 : decode cX8_init 26 = .ok (.putfield 24, 3) := dq_at daX8_init_R5 (i := 16) rfl
theorem dX8_init_29 : decode cX8_init 29 = .ok (.aload_n 0, 1) := dq_at daX8_init_R5 (i := 17) rfl
theorem dX8_init_30 : decode cX8_init 30 = .ok (.iconst 0, 1) := dq_at daX8_init_R5 (i := 18) rfl
theorem dX8_init_31 : decode cX8_init 31 = .ok (.putfield 27, 3) := dq_at daX8_init_R5 (i := 19) rfl
theorem dX8_init_34 : decode cX8_init 34 = .ok (.aload_n 0, 1) := dq_at daX8_init_R5 (i := 20) rfl
theorem dX8_init_35 : decode cX8_init 35 = .ok (.iconst 0, 1) := dq_at daX8_init_R5 (i := 21) rfl
theorem dX8_init_36 : decode cX8_init 36 = .ok (.putfield 30, 3) := dq_at daX8_init_R5 (i := 22) rfl
theorem dX8_init_39 : decode cX8_init 39 = .ok (.aload_n 0, 1) := dq_at daX8_init_R5 (i := 23) rfl
theorem dX8_init_40 : decode cX8_init 40 = .ok (.iconst 0, 1) := dq_at daX8_init_R5 (i := 24) rfl
theorem dX8_init_41 : decode cX8_init 41 = .ok (.putfield 33, 3) := dq_at daX8_init_R5 (i := 25) rfl
theorem dX8_init_44 : decode cX8_init 44 = .ok (.aload_n 0, 1) := dq_at daX8_init_R5 (i := 26) rfl
theorem dX8_init_45 : decode cX8_init 45 = .ok (.bipush 12, 2) := dq_at daX8_init_R5 (i := 27) rfl
theorem dX8_init_47 : decode cX8_init 47 = .ok (.newarray .int, 2) := dq_at daX8_init_R5 (i := 28) rfl
theorem dX8_init_49 : decode cX8_init 49 = .ok (.putfield 37, 3) := dq_at daX8_init_R5 (i := 29) rfl
theorem dX8_init_52 : decode cX8_init 52 = .ok (.aload_n 0, 1) := dq_at daX8_init_R5 (i := 30) rfl
theorem dX8_init_53 : decode cX8_init 53 = .ok (.bipush 12, 2) := dq_at daX8_init_R5 (i := 31) rfl
theorem dX8_init_55 : decode cX8_init 55 = .ok (.newarray .int, 2) := dq_at daX8_init_R5 (i := 32) rfl
theorem dX8_init_57 : decode cX8_init 57 = .ok (.putfield 41, 3) := dq_at daX8_init_R5 (i := 33) rfl
theorem dX8_init_60 : decode cX8_init 60 = .ok (.aload_n 0, 1) := dq_at daX8_init_R5 (i := 34) rfl
theorem dX8_init_61 : decode cX8_init 61 = .ok (.bipush 80, 2) := dq_at daX8_init_R5 (i := 35) rfl
theorem dX8_init_63 : decode cX8_init 63 = .ok (.newarray .byte, 2) := dq_at daX8_init_R5 (i := 36) rfl
theorem dX8_init_65 : decode cX8_init 65 = .ok (.putfield 44, 3) := dq_at daX8_init_R5 (i := 37) rfl
theorem dX8_init_68 : decode cX8_init 68 = .ok (.aload_n 0, 1) := dq_at daX8_init_R5 (i := 38) rfl
theorem dX8_init_69 : decode cX8_init 69 = .ok (.sipush 1000, 3) := dq_at daX8_init_R5 (i := 39) rfl
theorem dX8_init_72 : decode cX8_init 72 = .ok (.newarray .byte, 2) := dq_at daX8_init_R5 (i := 40) rfl
theorem dX8_init_74 : decode cX8_init 74 = .ok (.putfield 48, 3) := dq_at daX8_init_R5 (i := 41) rfl
theorem dX8_init_77 : decode cX8_init 77 = .ok (.aload_n 0, 1) := dq_at daX8_init_R5 (i := 42) rfl
theorem dX8_init_78 : decode cX8_init 78 = .ok (.sipush 1000, 3) := dq_at daX8_init_R5 (i := 43) rfl
theorem dX8_init_81 : decode cX8_init 81 = .ok (.newarray .short, 2) := dq_at daX8_init_R5 (i := 44) rfl
theorem dX8_init_83 : decode cX8_init 83 = .ok (.putfield 51, 3) := dq_at daX8_init_R5 (i := 45) rfl
theorem dX8_init_86 : decode cX8_init 86 = .ok (.return_, 1) := dq_at daX8_init_R5 (i := 46) rfl
theorem daX9_init_R6 : ([(0, .aload_n 0, 1), (1, .invokespecial 3, 3), (4, .aload_n 0, 1), (5, .bipush 80, 2), (7, .newarray .byte, 2), (9, .putfield 9, 3), (12, .aload_n 0, 1), (13, .iconst 0, 1), (14, .putfield 15, 3), (17, .return_, 1)] : List (Nat × Instr × Nat)).all (fun x => decide (decode cX9_init x.1 = .ok x.2)) = true := by decide +kernel
theorem dX9_init_0 : decode cX9_init 0 = .ok (.aload_n 0, 1) := dq_at daX9_init_R6 (i := 0) rfl
theorem dX9_init_1 : decode cX9_init 1 = .ok (.invokespecial 3, 3) := dq_at daX9_init_R6 (i := 1) rfl
theorem dX9_init_4 : decode cX9_init 4 = .ok (.aload_n 0, 1) := dq_at daX9_init_R6 (i := 2) rfl
theorem dX9_init_5 : decode cX9_init 5 = .ok (.bipush 80, 2) := dq_at daX9_init_R6 (i := 3) rfl
theorem dX9_init_7 : decode cX9_init 7 = .ok (.newarray .byte, 2) := dq_at daX9_init_R6 (i := 4) rfl
theorem dX9_init_9 : decode cX9_init 9 = .ok (.putfield 9, 3) := dq_at daX9_init_R6 (i := 5) rfl
theorem dX9_init_12 : decode cX9_init 12 = .ok (.aload_n 0, 1) := dq_at daX9_init_R6 (i := 6) rfl
theorem dX9_init_13 : decode cX9_init 13 = .ok (.iconst 0, 1) := dq_at daX9_init_R6 (i := 7) rfl
theorem dX9_init_14 : decode cX9_init 14 = .ok (.putfield 15, 3) := dq_at daX9_init_R6 (i := 8) rfl
theorem dX9_init_17 : decode cX9_init 17 = .ok (.return_, 1) := dq_at daX9_init_R6 (i := 9) rfl
theorem daX9_append_R7 : ([(0, .iconst 0, 1), (1, .istore_n 3, 1), (2, .iload_n 3, 1), (3, .iload_n 1, 1), (4, .if_icmp .ge 44, 3), (7, .aload_n 0, 1), (8, .getfield 15, 3), (11, .bipush 80, 2), (13, .if_icmp .ge 35, 3), (16, .aload_n 0, 1), (17, .getfield 9, 3), (20, .aload_n 0, 1), (21, .getfield 15, 3), (24, .iload_n 2, 1), (25, .bipush 8, 2), (27, .iload_n 3, 1), (28, .imul, 1), (29, .iushr, 1), (30, .i2b, 1), (31, .bastore, 1), (32, .aload_n 0, 1), (33, .dup, 1), (34, .getfield 15, 3), (37, .iconst 1, 1), (38, .iadd, 1), (39, .putfield 15, 3), (42, .iinc 3 1, 3), (45, .goto (-43), 3), (48, .return_, 1)] : List (Nat × Instr × Nat)).all (fun x => decide (decode cX9_append x.1 = .ok x.2)) = true := by decide +kernel
theorem dX9_append_0 : decode cX9_append 0 = .ok (.iconst 0, 1) := dq_at daX9_append_R7 (i := 0) rfl
theorem dX9_append_1 : decode cX9_append 1 = .ok (.istore_n 3, 1) := dq_at daX9_append_R7 (i := 1) rfl
theorem dX9_append_2 : decode cX9_append 2 = .ok (.iload_n 3, 1) := dq_at daX9_append_R7 (i := 2) rfl
theorem dX9_append_3 : decode cX9_append 3 = .ok (.iload_n 1, 1) := dq_at daX9_append_R7 (i := 3) rfl
theorem dX9_append_4 : decode cX9_append 4 = .ok (.if_icmp .ge 44, 3) := dq_at daX9_append_R7 (i := 4) rfl
theorem dX9_append_7 : decode cX9_append 7 = .ok (.aload_n 0, 1) := dq_at daX9_append_R7 (i := 5) rfl
theorem dX9_append_8 : decode cX9_append 8 = .ok (.getfield 15, 3) := dq_at daX9_append_R7 (i := 6) rfl
theorem dX9_append_11 : decode cX9_append 11 = .ok (.bipush 80, 2) := dq_at daX9_append_R7 (i := 7) rfl
theorem dX9_append_13 : decode cX9_append 13 = .ok (.if_icmp .ge 35, 3) := dq_at daX9_append_R7 (i := 8) rfl
theorem dX9_append_16 : decode cX9_append 16 = .ok (.aload_n 0, 1) := dq_at daX9_append_R7 (i := 9) rfl
theorem dX9_append_17 : decode cX9_append 17 = .ok (.getfield 9, 3) := dq_at daX9_append_R7 (i := 10) rfl
theorem dX9_append_20 : decode cX9_append 20 = .ok (.aload_n 0, 1) := dq_at daX9_append_R7 (i := 11) rfl
theorem dX9_append_21 : decode cX9_append 21 = .ok (.getfield 15, 3) := dq_at daX9_append_R7 (i := 12) rfl
theorem dX9_append_24 : decode cX9_append 24 = .ok (.iload_n 2, 1) := dq_at daX9_append_R7 (i := 13) rfl
theorem dX9_append_25 : decode cX9_append 25 = .ok (.bipush 8, 2) := dq_at daX9_append_R7 (i := 14) rfl
theorem dX9_append_27 : decode cX9_append 27 = .ok (.iload_n 3, 1) := dq_at daX9_append_R7 (i := 15) rfl
theorem dX9_append_28 : decode cX9_append 28 = .ok (.imul, 1) := dq_at daX9_append_R7 (i := 16) rfl
theorem dX9_append_29 : decode cX9_append 29 = .ok (.iushr, 1) := dq_at daX9_append_R7 (i := 17) rfl
theorem dX9_append_30 : decode cX9_append 30 = .ok (.i2b, 1) := dq_at daX9_append_R7 (i := 18) rfl
theorem dX9_append_31 : decode cX9_append 31 = .ok (.bastore, 1) := dq_at daX9_append_R7 (i := 19) rfl
theorem dX9_append_32 : decode cX9_append 32 = .ok (.aload_n 0, 1) := dq_at daX9_append_R7 (i := 20) rfl
theorem dX9_append_33 : decode cX9_append 33 = .ok (.dup, 1) := dq_at daX9_append_R7 (i := 21) rfl
theorem dX9_append_34 : decode cX9_append 34 = .ok (.getfield 15, 3) := dq_at daX9_append_R7 (i := 22) rfl
theorem dX9_append_37 : decode cX9_append 37 = .ok (.iconst 1, 1) := dq_at daX9_append_R7 (i := 23) rfl
theorem dX9_append_38 : decode cX9_append 38 = .ok (.iadd, 1) := dq_at daX9_append_R7 (i := 24) rfl
theorem dX9_append_39 : decode cX9_append 39 = .ok (.putfield 15, 3) := dq_at daX9_append_R7 (i := 25) rfl
theorem dX9_append_42 : decode cX9_append 42 = .ok (.iinc 3 1, 3) := dq_at daX9_append_R7 (i := 26) rfl
theorem dX9_append_45 : decode cX9_append 45 = .ok (.goto (-43), 3) := dq_at daX9_append_R7 (i := 27) rfl
theorem dX9_append_48 : decode cX9_append 48 = .ok (.return_, 1) := dq_at daX9_append_R7 (i := 28) rfl
theorem daX10_init_R8 : ([(0, .aload_n 0, 1), (1, .invokespecial 3, 3), (4, .aload_n 0, 1), (5, .bipush 6, 2), (7, .newarray .int, 2), (9, .putfield 9, 3), (12, .aload_n 0, 1), (13, .iconst 0, 1), (14, .putfield 15, 3), (17, .aload_n 0, 1), (18, .iconst (-1), 1), (19, .putfield 19, 3), (22, .aload_n 0, 1), (23, .bipush 12, 2), (25, .newarray .int, 2), (27, .putfield 22, 3), (30, .aload_n 0, 1), (31, .aload_n 1, 1), (32, .putfield 25, 3), (35, .return_, 1)] : List (Nat × Instr × Nat)).all (fun x => decide (decode cX10_init x.1 = .ok x.2)) = true := by decide +kernel
theorem dX10_init_0 : decode cX10_init 0 = .ok (.aload_n 0, 1) := dq_at daX10_init_R8 (i := 0) rfl
theorem dX10_init_1 : decode cX10_init 1 = .ok (.invokespecial 3, 3) := dq_at daX10_init_R8 (i := 1) rfl
theorem dX10_init_4 : decode cX10_init 4 = .ok (.aload_n 0, 1) := dq_at daX10_init_R8 (i := 2) rfl
theorem dX10_init_5 : decode cX10_init 5 = .ok (.bipush 6, 2) := dq_at daX10_init_R8 (i := 3) rfl
theorem dX10_init_7 : decode cX10_init 7 = .ok (.newarray .int, 2) := dq_at daX10_init_R8 (i := 4) rfl
theorem dX10_init_9 : decode cX10_init 9 = .ok (.putfield 9, 3) := dq_at daX10_init_R8 (i := 5) rfl
theorem dX10_init_12 : decode cX10_init 12 = .ok (.aload_n 0, 1) := dq_at daX10_init_R8 (i := 6) rfl
theorem dX10_init_13 : decode cX10_init 13 = .ok (.iconst 0, 1) := dq_at daX10_init_R8 (i := 7) rfl
theorem dX10_init_14 : decode cX10_init 14 = .ok (.putfield 15, 3) := dq_at daX10_init_R8 (i := 8) rfl
theorem dX10_init_17 : decode cX10_init 17 = .ok (.aload_n 0, 1) := dq_at daX10_init_R8 (i := 9) rfl
theorem dX10_init_18 : decode cX10_init 18 = .ok (.iconst (-1), 1) := dq_at daX10_init_R8 (i := 10) rfl
theorem dX10_init_19 : decode cX10_init 19 = .ok (.putfield 19, 3) := dq_at daX10_init_R8 (i := 11) rfl
theorem dX10_init_22 : decode cX10_init 22 = .ok (.aload_n 0, 1) := dq_at daX10_init_R8 (i := 12) rfl
theorem dX10_init_23 : decode cX10_init 23 = .ok (.bipush 12, 2) := dq_at daX10_init_R8 (i := 13) rfl
theorem dX10_init_25 : decode cX10_init 25 = .ok (.newarray .int, 2) := dq_at daX10_init_R8 (i := 14) rfl
theorem dX10_init_27 : decode cX10_init 27 = .ok (.putfield 22, 3) := dq_at daX10_init_R8 (i := 15) rfl
theorem dX10_init_30 : decode cX10_init 30 = .ok (.aload_n 0, 1) := dq_at daX10_init_R8 (i := 16) rfl
theorem dX10_init_31 : decode cX10_init 31 = .ok (.aload_n 1, 1) := dq_at daX10_init_R8 (i := 17) rfl
theorem dX10_init_32 : decode cX10_init 32 = .ok (.putfield 25, 3) := dq_at daX10_init_R8 (i := 18) rfl
theorem dX10_init_35 : decode cX10_init 35 = .ok (.return_, 1) := dq_at daX10_init_R8 (i := 19) rfl
noncomputable def csX11_init : List (List Cond) := [[Cond.code yX11_init cX11_init 1 none], wsX11_init_r1, wsX11_init_r2, wsX11_init_r3, wsX11_init_r4, wsX11_init_r5, wsX11_init_r6, wsX11_init_r7, wsX11_init_r8, wsX90, wsX110, wsX40, wsX20, wsX30, wsX10, wsX80, wsX60, wsX50, wsX100, wsX00, wsX70]
set_option maxRecDepth 20000 in
theorem ciX11_init : ∀ l ∈ csX11_init, ∀ w ∈ l, w ∈ wsX11_init := by
  unfold csX11_init
  refine List.forall_mem_cons.mpr ⟨fun _ h => List.mem_cons.mpr (Or.inl (List.mem_singleton.mp h)), List.forall_mem_cons.mpr ⟨fun _ h => List.mem_cons_of_mem _ (List.mem_append_left _ (List.mem_append_left _ (List.mem_append_left _ (List.mem_append_left _ (List.mem_append_left _ (List.mem_append_left _ (List.mem_append_left _ (List.mem_append_left _ (List.mem_append_left _ (List.mem_append_left _ (List.mem_append_left _ (List.mem_append_left _ (List.mem_append_left _ h))))))))))))), List.forall_mem_cons.mpr ⟨fun _ h => List.mem_cons_of_mem _ (List.mem_append_left _ (List.mem_append_left _ (List.mem_append_left _ (List.mem_append_left _ (List.mem_append_left _ (List.mem_append_left _ (List.mem_append_left _ (List.mem_append_left _ (List.mem_append_left _ (List.mem_append_left _ (List.mem_append_left _ (List.mem_append_left _ (List.mem_append_right _ (List.mem_append_left _ h)))))))))))))), List.forall_mem_cons.mpr ⟨fun _ h => List.mem_cons_of_mem _ (List.mem_append_left _ (List.mem_append_left _ (List.mem_append_left _ (List.mem_append_left _ (List.mem_append_left _ (List.mem_append_left _ (List.mem_append_left _ (List.mem_append_left _ (List.mem_append_left _ (List.mem_append_left _ (List.mem_append_left _ (List.mem_append_left _ (List.mem_append_right _ (List.mem_append_right _ (List.mem_append_left _ h))))))))))))))), List.forall_mem_cons.mpr ⟨fun _ h => List.mem_cons_of_mem _ (List.mem_append_left _ (List.mem_append_left _ (List.mem_append_left _ (List.mem_append_left _ (List.mem_append_left _ (List.mem_append_left _ (List.mem_append_left _ (List.mem_append_left _ (List.mem_append_left _ (List.mem_append_left _ (List.mem_append_left _ (List.mem_append_left _ (List.mem_append_right _ (List.mem_append_right _ (List.mem_append_right _ (List.mem_append_left _ h)))))))))))))))), List.forall_mem_cons.mpr ⟨fun _ h => List.mem_cons_of_mem _ (List.mem_append_left _ (List.mem_append_left _ (List.mem_append_left _ (List.mem_append_left _ (List.mem_append_left _ (List.mem_append_left _ (List.mem_append_left _ (List.mem_append_left _ (List.mem_append_left _ (List.mem_append_left _ (List.mem_append_left _ (List.mem_append_left _ (List.mem_append_right _ (List.mem_append_right _ (List.mem_append_right _ (List.mem_append_right _ (List.mem_append_left _ h))))))))))))))))), List.forall_mem_cons.mpr ⟨fun _ h => List.mem_cons_of_mem _ (List.mem_append_left _ (List.mem_append_left _ (List.mem_append_left _ (List.mem_append_left _ (List.mem_append_left _ (List.mem_append_left _ (List.mem_append_left _ (List.mem_append_left _ (List.mem_append_left _ (List.mem_append_left _ (List.mem_append_left _ (List.mem_append_left _ (List.mem_append_right _ (List.mem_append_right _ (List.mem_append_right _ (List.mem_append_right _ (List.mem_append_right _ (List.mem_append_left _ h)))))))))))))))))), List.forall_mem_cons.mpr ⟨fun _ h => List.mem_cons_of_mem _ (List.mem_append_left _ (List.mem_append_left _ (List.mem_append_left _ (List.mem_append_left _ (List.mem_append_left _ (List.mem_append_left _ (List.mem_append_left _ (List.mem_append_left _ (List.mem_append_left _ (List.mem_append_left _ (List.mem_append_left _ (List.mem_append_left _ (List.mem_append_right _ (List.mem_append_right _ (List.mem_append_right _ (List.mem_append_right _ (List.mem_append_right _ (List.mem_append_right _ (List.mem_append_left _ h))))))))))))))))))), List.forall_mem_cons.mpr ⟨fun _ h => List.mem_cons_of_mem _ (List.mem_append_left _ (List.mem_append_left _ (List.mem_append_left _ (List.mem_append_left _ (List.mem_append_left _ (List.mem_append_left _ (List.mem_append_left _ (List.mem_append_left _ (List.mem_append_left _ (List.mem_append_left _ (List.mem_append_left _ (List.mem_append_left _ (List.mem_append_right _ (List.mem_append_right _ (List.mem_append_right _ (List.mem_append_right _ (List.mem_append_right _ (List.mem_append_right _ (List.mem_append_right _ h))))))))))))))))))), List.forall_mem_cons.mpr ⟨fun _ h => List.mem_cons_of_mem _ (List.mem_append_left _ (List.mem_append_left _ (List.mem_append_left _ (List.mem_append_left _ (List.mem_append_left _ (List.mem_append_left _ (List.mem_append_left _ (List.mem_append_left _ (List.mem_append_left _ (List.mem_append_left _ (List.mem_append_left _ (List.mem_append_right _ h)))))))))))), List.forall_mem_cons.mpr ⟨fun _ h => List.mem_cons_of_mem _ (List.mem_append_left _ (List.mem_append_left _ (List.mem_append_left _ (List.mem_append_left _ (List.mem_append_left _ (List.mem_append_left _ (List.mem_append_left _ (List.mem_append_left _ (List.mem_append_left _ (List.mem_append_left _ (List.mem_append_right _ h))))))))))), List.forall_mem_cons.mpr ⟨fun _ h => List.mem_cons_of_mem _ (List.mem_append_left _ (List.mem_append_left _ (List.mem_append_left _ (List.mem_append_left _ (List.mem_append_left _ (List.mem_append_left _ (List.mem_append_left _ (List.mem_append_left _ (List.mem_append_left _ (List.mem_append_right _ h)))))))))), List.forall_mem_cons.mpr ⟨fun _ h => List.mem_cons_of_mem _ (List.mem_append_left _ (List.mem_append_left _ (List.mem_append_left _ (List.mem_append_left _ (List.mem_append_left _ (List.mem_append_left _ (List.mem_append_left _ (List.mem_append_left _ (List.mem_append_right _ h))))))))), List.forall_mem_cons.mpr ⟨fun _ h => List.mem_cons_of_mem _ (List.mem_append_left _ (List.mem_append_left _ (List.mem_append_left _ (List.mem_append_left _ (List.mem_append_left _ (List.mem_append_left _ (List.mem_append_left _ (List.mem_append_right _ h)))))))), List.forall_mem_cons.mpr ⟨fun _ h => List.mem_cons_of_mem _ (List.mem_append_left _ (List.mem_append_left _ (List.mem_append_left _ (List.mem_append_left _ (List.mem_append_left _ (List.mem_append_left _ (List.mem_append_right _ h))))))), List.forall_mem_cons.mpr ⟨fun _ h => List.mem_cons_of_mem _ (List.mem_append_left _ (List.mem_append_left _ (List.mem_append_left _ (List.mem_append_left _ (List.mem_append_left _ (List.mem_append_right _ h)))))), List.forall_mem_cons.mpr ⟨fun _ h => List.mem_cons_of_mem _ (List.mem_append_left _ (List.mem_append_left _ (List.mem_append_left _ (List.mem_append_left _ (List.mem_append_right _ h))))), List.forall_mem_cons.mpr ⟨fun _ h => List.mem_cons_of_mem _ (List.mem_append_left _ (List.mem_append_left _ (List.mem_append_left _ (List.mem_append_right _ h)))), List.forall_mem_cons.mpr ⟨fun _ h => List.mem_cons_of_mem _ (List.mem_append_left _ (List.mem_append_left _ (List.mem_append_right _ h))), List.forall_mem_cons.mpr ⟨fun _ h => List.mem_cons_of_mem _ (List.mem_append_left _ (List.mem_append_right _ h)), List.forall_mem_cons.mpr ⟨fun _ h => List.mem_cons_of_mem _ (List.mem_append_right _ h), fun l h => absurd h List.not_mem_nil⟩⟩⟩⟩⟩⟩⟩⟩⟩⟩⟩⟩⟩⟩⟩⟩⟩⟩⟩⟩⟩
set_option maxRecDepth 20000 in
theorem ggX11_init_X9_init : GoodIn wsX11_init wsX9_init := goodIn_r2 csX11_init ciX11_init _ [(3, 2), (3, 3), (1, 1), (1, 2), (3, 4), (3, 5), (3, 6), (9, 0), (9, 1)] rfl rfl
set_option maxRecDepth 20000 in
theorem gX11_init_X9_init_n9 : GoodIn wsX11_init (wsX9_init) := ggX11_init_X9_init
set_option maxRecDepth 20000 in
theorem ggX11_init_X4_init : GoodIn wsX11_init wsX4_init := goodIn_r2 csX11_init ciX11_init _ [(3, 8), (3, 9), (1, 1), (1, 2), (3, 10), (3, 4), (3, 11), (3, 12), (3, 13), (3, 14), (3, 15), (11, 0), (11, 1), (11, 2), (11, 3)] rfl rfl
set_option maxRecDepth 20000 in
theorem gX11_init_X4_init_n18 : GoodIn wsX11_init (wsX4_init) := ggX11_init_X4_init
set_option maxRecDepth 20000 in
theorem ggX11_init_X2_init : GoodIn wsX11_init wsX2_init := goodIn_r2 csX11_init ciX11_init _ [(3, 17), (3, 18), (1, 1), (1, 2), (3, 12), (3, 19), (3, 20), (3, 21), (3, 22), (3, 23), (4, 0), (4, 1), (12, 0), (12, 1), (12, 2), (12, 3), (12, 4), (12, 5)] rfl rfl
set_option maxRecDepth 20000 in
theorem gX11_init_X2_init_n25 : GoodIn wsX11_init (wsX2_init) := ggX11_init_X2_init
set_option maxRecDepth 20000 in
theorem ggX11_init_X3_init : GoodIn wsX11_init wsX3_init := goodIn_r2 csX11_init ciX11_init _ [(4, 3), (4, 4), (1, 1), (1, 2), (3, 4), (4, 5), (4, 6), (4, 7), (4, 8), (4, 9), (4, 10), (4, 11), (4, 12), (13, 0), (13, 1), (13, 2), (13, 3), (13, 4), (13, 5), (13, 6), (13, 7)] rfl rfl
set_option maxRecDepth 20000 in
theorem gX11_init_X3_init_n32 : GoodIn wsX11_init (wsX3_init) := ggX11_init_X3_init
set_option maxRecDepth 20000 in
theorem ggX11_init_X1_init : GoodIn wsX11_init wsX1_init := goodIn_r2 csX11_init ciX11_init _ [(4, 15), (4, 16), (1, 1), (1, 2), (3, 12), (4, 17), (4, 18), (4, 19), (4, 20), (4, 21), (4, 22), (4, 23), (5, 0), (5, 1), (14, 0), (14, 1), (14, 2), (14, 3), (14, 4), (14, 5), (14, 6), (14, 7), (14, 8)] rfl rfl
set_option maxRecDepth 20000 in
theorem gX11_init_X1_init : GoodIn wsX11_init (wsX1_init) := ggX11_init_X1_init
set_option maxRecDepth 20000 in
theorem ggX11_init_X8_init : GoodIn wsX11_init wsX8_init := goodIn_r2 csX11_init ciX11_init _ [(5, 3), (5, 4), (1, 1), (1, 2), (5, 5), (5, 6), (5, 7), (5, 8), (5, 9), (5, 10), (5, 11), (5, 12), (3, 12), (5, 13), (5, 14), (3, 4), (5, 15), (5, 16), (5, 17), (5, 18), (15, 0), (15, 1), (15, 2), (15, 3), (15, 4), (15, 5), (15, 6), (15, 7), (15, 8), (15, 9), (15, 10), (15, 11), (15, 12)] rfl rfl
set_option maxRecDepth 20000 in
theorem gX11_init_X8_init_n56 : GoodIn wsX11_init (wsX8_init) := ggX11_init_X8_init
set_option maxRecDepth 20000 in
theorem ggX11_init_X6_init : GoodIn wsX11_init wsX6_init := goodIn_r2 csX11_init ciX11_init _ [(5, 21), (5, 22), (1, 1), (1, 2), (5, 23), (3, 12), (6, 0), (6, 1), (6, 2), (6, 3), (6, 4), (6, 5), (6, 6), (6, 7), (6, 8), (6, 9), (6, 10), (6, 11), (16, 0), (16, 1), (16, 2), (16, 3), (16, 4), (16, 5), (16, 6), (16, 7), (16, 8), (16, 9), (16, 10), (16, 11)] rfl rfl
set_option maxRecDepth 20000 in
theorem gX11_init_X6_init : GoodIn wsX11_init (wsX6_init) := ggX11_init_X6_init
set_option maxRecDepth 20000 in
theorem ggX11_init_X5_init : GoodIn wsX11_init wsX5_init := goodIn_r2 csX11_init ciX11_init _ [(6, 14), (6, 15), (1, 1), (1, 2), (3, 12), (6, 16), (6, 17), (6, 18), (6, 19), (6, 20), (6, 21), (6, 22), (6, 23), (7, 0), (7, 1), (7, 2), (17, 0), (17, 1), (17, 2), (17, 3), (17, 4), (17, 5), (17, 6), (17, 7), (17, 8), (17, 9)] rfl rfl
set_option maxRecDepth 20000 in
theorem gX11_init_X5_init : GoodIn wsX11_init (wsX5_init) := ggX11_init_X5_init
set_option maxRecDepth 20000 in
theorem ggX11_init_X10_init : GoodIn wsX11_init wsX10_init := goodIn_r2 csX11_init ciX11_init _ [(7, 5), (7, 6), (1, 1), (1, 2), (3, 12), (7, 7), (7, 8), (7, 9), (7, 10), (7, 11), (18, 0), (18, 1), (18, 2), (18, 3), (18, 4)] rfl rfl
set_option maxRecDepth 20000 in
theorem gX11_init_X10_init : GoodIn wsX11_init (wsX10_init) := ggX11_init_X10_init
set_option maxRecDepth 20000 in
theorem ggX11_init_X0_init : GoodIn wsX11_init wsX0_init := goodIn_r2 csX11_init ciX11_init _ [(7, 13), (7, 14), (1, 1), (1, 2), (3, 12), (7, 15), (7, 16), (7, 17), (7, 18), (7, 19), (19, 0), (19, 1), (19, 2), (19, 3), (19, 4)] rfl rfl
set_option maxRecDepth 20000 in
theorem gX11_init_X0_init_n90 : GoodIn wsX11_init (wsX0_init) := ggX11_init_X0_init
set_option maxRecDepth 20000 in
theorem ggX11_init_X7_init : GoodIn wsX11_init wsX7_init := goodIn_r2 csX11_init ciX11_init _ [(7, 22), (7, 23), (1, 1), (1, 2), (3, 12), (8, 0), (8, 1), (8, 2), (8, 3), (8, 4), (8, 5), (8, 6), (8, 7), (8, 8), (8, 9), (20, 0), (20, 1), (20, 2), (20, 3)] rfl rfl
set_option maxRecDepth 20000 in
theorem gX11_init_X7_init : GoodIn wsX11_init (wsX7_init) := ggX11_init_X7_init
theorem daX11_init_R9 : ([(0, .aload_n 0, 1), (1, .invokespecial 1, 3), (4, .aload_n 0, 1), (5, .new 7, 3), (8, .dup, 1), (9, .invokespecial 9, 3), (12, .putfield 10, 3), (15, .aload_n 0, 1), (16, .new 16, 3), (19, .dup, 1), (20, .invokespecial 18, 3), (23, .putfield 19, 3), (26, .aload_n 0, 1), (27, .new 23, 3), (30, .dup, 1), (31, .invokespecial 25, 3), (34, .putfield 26, 3), (37, .aload_n 0, 1), (38, .new 30, 3), (41, .dup, 1), (42, .invokespecial 32, 3), (45, .putfield 33, 3), (48, .aload_n 0, 1), (49, .new 37, 3), (52, .dup, 1), (53, .aload_n 0, 1), (54, .getfield 26, 3), (57, .invokespecial 39, 3), (60, .putfield 42, 3), (63, .aload_n 0, 1), (64, .bipush 10, 2), (66, .anewarray 46, 3), (69, .putfield 48, 3), (72, .aload_n 0, 1), (73, .iconst 0, 1), (74, .putfield 52, 3), (77, .aload_n 0, 1), (78, .new 46, 3), (81, .dup, 1), (82, .invokespecial 56, 3), (85, .putfield 57, 3), (88, .aload_n 0, 1), (89, .new 61, 3), (92, .dup, 1), (93, .aload_n 0, 1), (94, .getfield 26, 3), (97, .aload_n 0, 1), (98, .getfield 19, 3), (101, .aload_n 0, 1), (102, .getfield 42, 3), (105, .invokespecial 63, 3), (108, .putfield 66, 3), (111, .aload_n 0, 1), (112, .new 70, 3), (115, .dup, 1), (116, .aload_n 0, 1), (117, .getfield 26, 3), (120, .aload_n 0, 1), (121, .getfield 19, 3), (124, .aload_n 0, 1)] : List (Nat × Instr × Nat)).all (fun x => decide (decode cX11_init x.1 = .ok x.2)) = true := by decide +kernel
theorem dX11_init_0 : decode cX11_init 0 = .ok (.aload_n 0, 1) := dq_at daX11_init_R9 (i := 0) rfl
theorem dX11_init_1 : decode cX11_init 1 = .ok (.invokespecial 1, 3) := dq_at daX11_init_R9 (i := 1) rfl
theorem dX11_init_4 : decode cX11_init 4 = .ok (.aload_n 0, 1) := dq_at daX11_init_R9 (i := 2) rfl
theorem dX11_init_5 : decode cX11_init 5 = .ok (.new 7, 3) := dq_at daX11_init_R9 (i := 3) rfl
theorem dX11_init_8 : decode cX11_init 8 = .ok (.dup, 1) := dq_at daX11_init_R9 (i := 4) rfl
theorem dX11_init_9 : decode cX11_init 9 = .ok (.invokespecial 9, 3) := dq_at daX11_init_R9 (i := 5) rfl
theorem dX11_init_12 : decode cX11_init 12 = .ok (.putfield 10, 3) := dq_at daX11_init_R9 (i := 6) rfl
theorem dX11_init_15 : decode cX11_init 15 = .ok (.aload_n 0, 1) := dq_at daX11_init_R9 (i := 7) rfl
theorem dX11_init_16 : decode cX11_init 16 = .ok (.new 16, 3) := dq_at daX11_init_R9 (i := 8) rfl
theorem dX11_init_19 : decode cX11_init 19 = .ok (.dup, 1) := dq_at daX11_init_R9 (i := 9) rfl
theorem dX11_init_20 : decode cX11_init 20 = .ok (.invokespecial 18, 3) := dq_at daX11_init_R9 (i := 10) rfl
theorem dX11_init_23 : decode cX11_init 23 = .ok (.putfield 19, 3) := dq_at daX11_init_R9 (i := 11) rfl
theorem dX11_init_26 : decode cX11_init 26 = .ok (.aload_n 0, 1) := dq_at daX11_init_R9 (i := 12) rfl
theorem dX11_init_27 : decode cX11_init 27 = .ok (.new 23, 3) := dq_at daX11_init_R9 (i := 13) rfl
theorem dX11_init_30 : decode cX11_init 30 = .ok (.dup, 1) := dq_at daX11_init_R9 (i := 14) rfl
theorem dX11_init_31 : decode cX11_init 31 = .ok (.invokespecial 25, 3) := dq_at daX11_init_R9 (i := 15) rfl
theorem dX11_init_34 : decode cX11_init 34 = .ok (.putfield 26, 3) := dq_at daX11_init_R9 (i := 16) rfl
theorem dX11_init_37 : decode cX11_init 37 = .ok (.aload_n 0, 1) := dq_at daX11_init_R9 (i := 17) rfl
theorem dX11_init_38 : decode cX11_init 38 = .ok (.new 30, 3) := dq_at daX11_init_R9 (i := 18) rfl
theorem dX11_init_41 : decode cX11_init 41 = .ok (.dup, 1) := dq_at daX11_init_R9 (i := 19) rfl
theorem dX11_init_42 : decode cX11_init 42 = .ok (.invokespecial 32, 3) := dq_at daX11_init_R9 (i := 20) rfl
theorem dX11_init_45 : decode cX11_init 45 = .ok (.putfield 33, 3) := dq_at daX11_init_R9 (i := 21) rfl
theorem dX11_init_48 : decode cX11_init 48 = .ok (.aload_n 0, 1) := dq_at daX11_init_R9 (i := 22) rfl
theorem dX11_init_49 : decode cX11_init 49 = .ok (.new 37, 3) := dq_at daX11_init_R9 (i := 23) rfl
theorem dX11_init_52 : decode cX11_init 52 = .ok (.dup, 1) := dq_at daX11_init_R9 (i := 24) rfl
theorem dX11_init_53 : decode cX11_init 53 = .ok (.aload_n 0, 1) := dq_at daX11_init_R9 (i := 25) rfl
theorem dX11_init_54 : decode cX11_init 54 = .ok (.getfield 26, 3) := dq_at daX11_init_R9 (i := 26) rfl
theorem dX11_init_57 : decode cX11_init 57 = .ok (.invokespecial 39, 3) := dq_at daX11_init_R9 (i := 27) rfl
theorem dX11_init_60 : decode cX11_init 60 = .ok (.putfield 42, 3) := dq_at daX11_init_R9 (i := 28) rfl
theorem dX11_init_63 : decode cX11_init 63 = .ok (.aload_n 0, 1) := dq_at daX11_init_R9 (i := 29) rfl
theorem dX11_init_64 : decode cX11_init 64 = .ok (.bipush 10, 2) := dq_at daX11_init_R9 (i := 30) rfl
theorem dX11_init_66 : decode cX11_init 66 = .ok (.anewarray 46, 3) := dq_at daX11_init_R9 (i := 31) rfl
theorem dX11_init_69 : decode cX11_init 69 = .ok (.putfield 48, 3) := dq_at daX11_init_R9 (i := 32) rfl
theorem dX11_init_72 : decode cX11_init 72 = .ok (.aload_n 0, 1) := dq_at daX11_init_R9 (i := 33) rfl
theorem dX11_init_73 : decode cX11_init 73 = .ok (.iconst 0, 1) := dq_at daX11_init_R9 (i := 34) rfl
theorem dX11_init_74 : decode cX11_init 74 = .ok (.putfield 52, 3) := dq_at daX11_init_R9 (i := 35) rfl
theorem dX11_init_77 : decode cX11_init 77 = .ok (.aload_n 0, 1) := dq_at daX11_init_R9 (i := 36) rfl
theorem dX11_init_78 : decode cX11_init 78 = .ok (.new 46, 3) := dq_at daX11_init_R9 (i := 37) rfl
theorem dX11_init_81 : decode cX11_init 81 = .ok (.dup, 1) := dq_at daX11_init_R9 (i := 38) rfl
theorem dX11_init_82 : decode cX11_init 82 = .ok (.invokespecial 56, 3) := dq_at daX11_init_R9 (i := 39) rfl
theorem dX11_init_85 : decode cX11_init 85 = .ok (.putfield 57, 3) := dq_at daX11_init_R9 (i := 40) rfl
theorem dX11_init_88 : decode cX11_init 88 = .ok (.aload_n 0, 1) := dq_at daX11_init_R9 (i := 41) rfl
theorem dX11_init_89 : decode cX11_init 89 = .ok (.new 61, 3) := dq_at daX11_init_R9 (i := 42) rfl
theorem dX11_init_92 : decode cX11_init 92 = .ok (.dup, 1) := dq_at daX11_init_R9 (i := 43) rfl
theorem dX11_init_93 : decode cX11_init 93 = .ok (.aload_n 0, 1) := dq_at daX11_init_R9 (i := 44) rfl
theorem dX11_init_94 : decode cX11_init 94 = .ok (.getfield 26, 3) := dq_at daX11_init_R9 (i := 45) rfl
theorem dX11_init_97 : decode cX11_init 97 = .ok (.aload_n 0, 1) := dq_at daX11_init_R9 (i := 46) rfl
theorem dX11_init_98 : decode cX11_init 98 = .ok (.getfield 19, 3) := dq_at daX11_init_R9 (i := 47) rfl
theorem dX11_init_101 : decode cX11_init 101 = .ok (.aload_n 0, 1) := dq_at daX11_init_R9 (i := 48) rfl
theorem dX11_init_102 : decode cX11_init 102 = .ok (.getfield 42, 3) := dq_at daX11_init_R9 (i := 49) rfl
theorem dX11_init_105 : decode cX11_init 105 = .ok (.invokespecial 63, 3) := dq_at daX11_init_R9 (i := 50) rfl
theorem dX11_init_108 : decode cX11_init 108 = .ok (.putfield 66, 3) := dq_at daX11_init_R9 (i := 51) rfl
theorem dX11_init_111 : decode cX11_init 111 = .ok (.aload_n 0, 1) := dq_at daX11_init_R9 (i := 52) rfl
theorem dX11_init_112 : decode cX11_init 112 = .ok (.new 70, 3) := dq_at daX11_init_R9 (i := 53) rfl
theorem dX11_init_115 : decode cX11_init 115 = .ok (.dup, 1) := dq_at daX11_init_R9 (i := 54) rfl
theorem dX11_init_116 : decode cX11_init 116 = .ok (.aload_n 0, 1) := dq_at daX11_init_R9 (i := 55) rfl
theorem dX11_init_117 : decode cX11_init 117 = .ok (.getfield 26, 3) := dq_at daX11_init_R9 (i := 56) rfl
theorem dX11_init_120 : decode cX11_init 120 = .ok (.aload_n 0, 1) := dq_at daX11_init_R9 (i := 57) rfl
theorem dX11_init_121 : decode cX11_init 121 = .ok (.getfield 19, 3) := dq_at daX11_init_R9 (i := 58) rfl
theorem dX11_init_124 : decode cX11_init 124 = .ok (.aload_n 0, 1) := dq_at daX11_init_R9 (i := 59) rfl
theorem daX11_init_R10 : ([(125, .getfield 42, 3), (128, .aload_n 0, 1), (129, .getfield 33, 3), (132, .invokespecial 72, 3), (135, .putfield 75, 3), (138, .aload_n 0, 1), (139, .new 79, 3), (142, .dup, 1), (143, .aload_n 0, 1), (144, .getfield 19, 3), (147, .invokespecial 81, 3), (150, .putfield 84, 3), (153, .aload_n 0, 1), (154, .new 88, 3), (157, .dup, 1), (158, .invokespecial 90, 3), (161, .putfield 91, 3), (164, .aload_n 0, 1), (165, .new 95, 3), (168, .dup, 1), (169, .invokespecial 97, 3), (172, .putfield 98, 3), (175, .return_, 1)] : List (Nat × Instr × Nat)).all (fun x => decide (decode cX11_init x.1 = .ok x.2)) = true := by decide +kernel
theorem dX11_init_125 : decode cX11_init 125 = .ok (.getfield 42, 3) := dq_at daX11_init_R10 (i := 0) rfl
theorem dX11_init_128 : decode cX11_init 128 = .ok (.aload_n 0, 1) := dq_at daX11_init_R10 (i := 1) rfl
theorem dX11_init_129 : decode cX11_init 129 = .ok (.getfield 33, 3) := dq_at daX11_init_R10 (i := 2) rfl
theorem dX11_init_132 : decode cX11_init 132 = .ok (.invokespecial 72, 3) := dq_at daX11_init_R10 (i := 3) rfl
theorem dX11_init_135 : decode cX11_init 135 = .ok (.putfield 75, 3) := dq_at daX11_init_R10 (i := 4) rfl
theorem dX11_init_138 : decode cX11_init 138 = .ok (.aload_n 0, 1) := dq_at daX11_init_R10 (i := 5) rfl
theorem dX11_init_139 : decode cX11_init 139 = .ok (.new 79, 3) := dq_at daX11_init_R10 (i := 6) rfl
theorem dX11_init_142 : decode cX11_init 142 = .ok (.dup, 1) := dq_at daX11_init_R10 (i := 7) rfl
theorem dX11_init_143 : decode cX11_init 143 = .ok (.aload_n 0, 1) := dq_at daX11_init_R10 (i := 8) rfl
theorem dX11_init_144 : decode cX11_init 144 = .ok (.getfield 19, 3) := dq_at daX11_init_R10 (i := 9) rfl
theorem dX11_init_147 : decode cX11_init 147 = .ok (.invokespecial 81, 3) := dq_at daX11_init_R10 (i := 10) rfl
theorem dX11_init_150 : decode cX11_init 150 = .ok (.putfield 84, 3) := dq_at daX11_init_R10 (i := 11) rfl
theorem dX11_init_153 : decode cX11_init 153 = .ok (.aload_n 0, 1) := dq_at daX11_init_R10 (i := 12) rfl
theorem dX11_init_154 : decode cX11_init 154 = .ok (.new 88, 3) := dq_at daX11_init_R10 (i := 13) rfl
theorem dX11_init_157 : decode cX11_init 157 = .ok (.dup, 1) := dq_at daX11_init_R10 (i := 14) rfl
theorem dX11_init_158 : decode cX11_init 158 = .ok (.invokespecial 90, 3) := dq_at daX11_init_R10 (i := 15) rfl
theorem dX11_init_161 : decode cX11_init 161 = .ok (.putfield 91, 3) := dq_at daX11_init_R10 (i := 16) rfl
theorem dX11_init_164 : decode cX11_init 164 = .ok (.aload_n 0, 1) := dq_at daX11_init_R10 (i := 17) rfl
theorem dX11_init_165 : decode cX11_init 165 = .ok (.new 95, 3) := dq_at daX11_init_R10 (i := 18) rfl
theorem dX11_init_168 : decode cX11_init 168 = .ok (.dup, 1) := dq_at daX11_init_R10 (i := 19) rfl
theorem dX11_init_169 : decode cX11_init 169 = .ok (.invokespecial 97, 3) := dq_at daX11_init_R10 (i := 20) rfl
theorem dX11_init_172 : decode cX11_init 172 = .ok (.putfield 98, 3) := dq_at daX11_init_R10 (i := 21) rfl
theorem dX11_init_175 : decode cX11_init 175 = .ok (.return_, 1) := dq_at daX11_init_R10 (i := 22) rfl
noncomputable def csX11_feed : List (List Cond) := [[Cond.code yX11_feed cX11_feed 3 (some .int)], [Cond.fieldLink RX11 10 "SeatsRound" "tape" "LSeatsRound$Tape;", Cond.fieldLink RX11 102 "SeatsRound$Tape" "length" "I", Cond.methodLink RX11 105 yX9_append, Cond.instanceMethod yX9_append, Cond.selects RX9 yX9_append yX9_append, Cond.initialized RX9, Cond.code yX9_append cX9_append 4 none, Cond.fieldLink RX9 15 "SeatsRound$Tape" "length" "I", Cond.fieldLink RX9 9 "SeatsRound$Tape" "bytes" "[B"], wsX110, wsX90]
set_option maxRecDepth 20000 in
theorem ciX11_feed : ∀ l ∈ csX11_feed, ∀ w ∈ l, w ∈ wsX11_feed := by
  unfold csX11_feed
  refine List.forall_mem_cons.mpr ⟨fun _ h => List.mem_cons.mpr (Or.inl (List.mem_singleton.mp h)), List.forall_mem_cons.mpr ⟨fun _ h => List.mem_cons_of_mem _ (List.mem_append_left _ (List.mem_append_left _ h)), List.forall_mem_cons.mpr ⟨fun _ h => List.mem_cons_of_mem _ (List.mem_append_left _ (List.mem_append_right _ h)), List.forall_mem_cons.mpr ⟨fun _ h => List.mem_cons_of_mem _ (List.mem_append_right _ h), fun l h => absurd h List.not_mem_nil⟩⟩⟩⟩
set_option maxRecDepth 20000 in
theorem ggX11_feed_X9_append : GoodIn wsX11_feed wsX9_append := goodIn_r2 csX11_feed ciX11_feed _ [(1, 6), (1, 7), (1, 8), (3, 0), (3, 1)] rfl rfl
set_option maxRecDepth 20000 in
theorem gX11_feed_X9_append : GoodIn wsX11_feed (wsV RX11 105 RX9 yX9_append wsX9_append) := goodIn_app (goodIn_r2 csX11_feed ciX11_feed _ [(1, 2), (1, 3), (1, 4), (1, 5)] rfl rfl) ggX11_feed_X9_append
theorem daX11_feed_R11 : ([(0, .iload_n 1, 1), (1, .iconst 1, 1), (2, .if_icmp .lt 8, 3), (5, .iload_n 1, 1), (6, .iconst 4, 1), (7, .if_icmp .le 5, 3), (10, .iconst (-1), 1), (11, .ireturn, 1), (12, .aload_n 0, 1), (13, .getfield 10, 3), (16, .getfield 102, 3), (19, .iload_n 1, 1), (20, .iadd, 1), (21, .bipush 80, 2), (23, .if_icmp .le 6, 3), (29, .aload_n 0, 1), (30, .getfield 10, 3), (33, .iload_n 1, 1), (34, .iload_n 2, 1), (35, .invokevirtual 105, 3), (38, .aload_n 0, 1), (39, .getfield 10, 3), (42, .getfield 102, 3), (45, .ireturn, 1)] : List (Nat × Instr × Nat)).all (fun x => decide (decode cX11_feed x.1 = .ok x.2)) = true := by decide +kernel
theorem dX11_feed_0 : decode cX11_feed 0 = .ok (.iload_n 1, 1) := dq_at daX11_feed_R11 (i := 0) rfl
theorem dX11_feed_1 : decode cX11_feed 1 = .ok (.iconst 1, 1) := dq_at daX11_feed_R11 (i := 1) rfl
theorem dX11_feed_2 : decode cX11_feed 2 = .ok (.if_icmp .lt 8, 3) := dq_at daX11_feed_R11 (i := 2) rfl
theorem dX11_feed_5 : decode cX11_feed 5 = .ok (.iload_n 1, 1) := dq_at daX11_feed_R11 (i := 3) rfl
theorem dX11_feed_6 : decode cX11_feed 6 = .ok (.iconst 4, 1) := dq_at daX11_feed_R11 (i := 4) rfl
theorem dX11_feed_7 : decode cX11_feed 7 = .ok (.if_icmp .le 5, 3) := dq_at daX11_feed_R11 (i := 5) rfl
theorem dX11_feed_10 : decode cX11_feed 10 = .ok (.iconst (-1), 1) := dq_at daX11_feed_R11 (i := 6) rfl
theorem dX11_feed_11 : decode cX11_feed 11 = .ok (.ireturn, 1) := dq_at daX11_feed_R11 (i := 7) rfl
theorem dX11_feed_12 : decode cX11_feed 12 = .ok (.aload_n 0, 1) := dq_at daX11_feed_R11 (i := 8) rfl
theorem dX11_feed_13 : decode cX11_feed 13 = .ok (.getfield 10, 3) := dq_at daX11_feed_R11 (i := 9) rfl
theorem dX11_feed_16 : decode cX11_feed 16 = .ok (.getfield 102, 3) := dq_at daX11_feed_R11 (i := 10) rfl
theorem dX11_feed_19 : decode cX11_feed 19 = .ok (.iload_n 1, 1) := dq_at daX11_feed_R11 (i := 11) rfl
theorem dX11_feed_20 : decode cX11_feed 20 = .ok (.iadd, 1) := dq_at daX11_feed_R11 (i := 12) rfl
theorem dX11_feed_21 : decode cX11_feed 21 = .ok (.bipush 80, 2) := dq_at daX11_feed_R11 (i := 13) rfl
theorem dX11_feed_23 : decode cX11_feed 23 = .ok (.if_icmp .le 6, 3) := dq_at daX11_feed_R11 (i := 14) rfl
theorem dX11_feed_29 : decode cX11_feed 29 = .ok (.aload_n 0, 1) := dq_at daX11_feed_R11 (i := 15) rfl
theorem dX11_feed_30 : decode cX11_feed 30 = .ok (.getfield 10, 3) := dq_at daX11_feed_R11 (i := 16) rfl
theorem dX11_feed_33 : decode cX11_feed 33 = .ok (.iload_n 1, 1) := dq_at daX11_feed_R11 (i := 17) rfl
theorem dX11_feed_34 : decode cX11_feed 34 = .ok (.iload_n 2, 1) := dq_at daX11_feed_R11 (i := 18) rfl
theorem dX11_feed_35 : decode cX11_feed 35 = .ok (.invokevirtual 105, 3) := dq_at daX11_feed_R11 (i := 19) rfl
theorem dX11_feed_38 : decode cX11_feed 38 = .ok (.aload_n 0, 1) := dq_at daX11_feed_R11 (i := 20) rfl
theorem dX11_feed_39 : decode cX11_feed 39 = .ok (.getfield 10, 3) := dq_at daX11_feed_R11 (i := 21) rfl
theorem dX11_feed_42 : decode cX11_feed 42 = .ok (.getfield 102, 3) := dq_at daX11_feed_R11 (i := 22) rfl
theorem dX11_feed_45 : decode cX11_feed 45 = .ok (.ireturn, 1) := dq_at daX11_feed_R11 (i := 23) rfl
theorem daX11_name_R12 : ([(0, .aload_n 0, 1), (1, .getfield 10, 3), (4, .getfield 102, 3), (7, .iconst 1, 1), (8, .if_icmp .lt 15, 3), (23, .iconst (-1), 1), (24, .ireturn, 1)] : List (Nat × Instr × Nat)).all (fun x => decide (decode cX11_name x.1 = .ok x.2)) = true := by decide +kernel
theorem dX11_name_0 : decode cX11_name 0 = .ok (.aload_n 0, 1) := dq_at daX11_name_R12 (i := 0) rfl
theorem dX11_name_1 : decode cX11_name 1 = .ok (.getfield 10, 3) := dq_at daX11_name_R12 (i := 1) rfl
theorem dX11_name_4 : decode cX11_name 4 = .ok (.getfield 102, 3) := dq_at daX11_name_R12 (i := 2) rfl
theorem dX11_name_7 : decode cX11_name 7 = .ok (.iconst 1, 1) := dq_at daX11_name_R12 (i := 3) rfl
theorem dX11_name_8 : decode cX11_name 8 = .ok (.if_icmp .lt 15, 3) := dq_at daX11_name_R12 (i := 4) rfl
theorem dX11_name_23 : decode cX11_name 23 = .ok (.iconst (-1), 1) := dq_at daX11_name_R12 (i := 5) rfl
theorem dX11_name_24 : decode cX11_name 24 = .ok (.ireturn, 1) := dq_at daX11_name_R12 (i := 6) rfl
noncomputable def csX11_number : List (List Cond) := [[Cond.code yX11_number cX11_number 3 (some .int)], [Cond.fieldLink RX11 19 "SeatsRound" "nameList" "LSeatsRound$NameList;", Cond.methodLink RX11 123 yX4_has, Cond.instanceMethod yX4_has, Cond.selects RX4 yX4_has yX4_has, Cond.initialized RX4, Cond.code yX4_has cX4_has 2 (some .boolean), Cond.fieldLink RX4 24 "SeatsRound$NameList" "count" "I", Cond.methodLink RX11 127 yX4_placeOf, Cond.instanceMethod yX4_placeOf, Cond.selects RX4 yX4_placeOf yX4_placeOf, Cond.code yX4_placeOf cX4_placeOf 5 (some .int), Cond.fieldLink RX4 16 "SeatsRound$NameList" "size" "[I", Cond.fieldLink RX4 11 "SeatsRound$NameList" "bytes" "[[B", Cond.constant RX4 38 (16777619)], wsX110, wsX40]
set_option maxRecDepth 20000 in
theorem ciX11_number : ∀ l ∈ csX11_number, ∀ w ∈ l, w ∈ wsX11_number := by
  unfold csX11_number
  refine List.forall_mem_cons.mpr ⟨fun _ h => List.mem_cons.mpr (Or.inl (List.mem_singleton.mp h)), List.forall_mem_cons.mpr ⟨fun _ h => List.mem_cons_of_mem _ (List.mem_append_left _ (List.mem_append_left _ h)), List.forall_mem_cons.mpr ⟨fun _ h => List.mem_cons_of_mem _ (List.mem_append_left _ (List.mem_append_right _ h)), List.forall_mem_cons.mpr ⟨fun _ h => List.mem_cons_of_mem _ (List.mem_append_right _ h), fun l h => absurd h List.not_mem_nil⟩⟩⟩⟩
set_option maxRecDepth 20000 in
theorem ggX11_number_X4_has : GoodIn wsX11_number wsX4_has := goodIn_r2 csX11_number ciX11_number _ [(1, 5), (1, 6), (3, 0), (3, 1), (3, 2), (3, 3)] rfl rfl
set_option maxRecDepth 20000 in
theorem gX11_number_X4_has : GoodIn wsX11_number (wsV RX11 123 RX4 yX4_has wsX4_has) := goodIn_app (goodIn_r2 csX11_number ciX11_number _ [(1, 1), (1, 2), (1, 3), (1, 4)] rfl rfl) ggX11_number_X4_has
theorem daX11_number_R13 : ([(0, .aload_n 0, 1), (1, .getfield 19, 3), (4, .iload_n 1, 1), (5, .invokevirtual 123, 3), (8, .ifCond .ne 5, 3), (11, .iconst (-1), 1), (12, .ireturn, 1)] : List (Nat × Instr × Nat)).all (fun x => decide (decode cX11_number x.1 = .ok x.2)) = true := by decide +kernel
theorem dX11_number_0 : decode cX11_number 0 = .ok (.aload_n 0, 1) := dq_at daX11_number_R13 (i := 0) rfl
theorem dX11_number_1 : decode cX11_number 1 = .ok (.getfield 19, 3) := dq_at daX11_number_R13 (i := 1) rfl
theorem dX11_number_4 : decode cX11_number 4 = .ok (.iload_n 1, 1) := dq_at daX11_number_R13 (i := 2) rfl
theorem dX11_number_5 : decode cX11_number 5 = .ok (.invokevirtual 123, 3) := dq_at daX11_number_R13 (i := 3) rfl
theorem dX11_number_8 : decode cX11_number 8 = .ok (.ifCond .ne 5, 3) := dq_at daX11_number_R13 (i := 4) rfl
theorem dX11_number_11 : decode cX11_number 11 = .ok (.iconst (-1), 1) := dq_at daX11_number_R13 (i := 5) rfl
theorem dX11_number_12 : decode cX11_number 12 = .ok (.ireturn, 1) := dq_at daX11_number_R13 (i := 6) rfl
noncomputable def csX11_keeper : List (List Cond) := [[Cond.code yX11_keeper cX11_keeper 3 (some .int)], [Cond.fieldLink RX11 26 "SeatsRound" "keepers" "LSeatsRound$Keepers;", Cond.fieldLink RX11 134 "SeatsRound$Keepers" "count" "I", Cond.methodLink RX11 131 yX11_isStrength, Cond.static yX11_isStrength, Cond.initialized RX11, Cond.code yX11_isStrength cX11_isStrength 1 (some .boolean), Cond.methodLink RX11 135 yX2_add, Cond.instanceMethod yX2_add, Cond.selects RX2 yX2_add yX2_add, Cond.initialized RX2, Cond.code yX2_add cX2_add 3 (some .int), Cond.fieldLink RX2 9 "SeatsRound$Keepers" "kind" "[I", Cond.fieldLink RX2 28 "SeatsRound$Keepers" "count" "I", Cond.fieldLink RX2 15 "SeatsRound$Keepers" "street" "[I", Cond.fieldLink RX2 18 "SeatsRound$Keepers" "strength" "[I", Cond.fieldLink RX2 21 "SeatsRound$Keepers" "table" "[I"], wsX110, wsX20]
set_option maxRecDepth 20000 in
theorem ciX11_keeper : ∀ l ∈ csX11_keeper, ∀ w ∈ l, w ∈ wsX11_keeper := by
  unfold csX11_keeper
  refine List.forall_mem_cons.mpr ⟨fun _ h => List.mem_cons.mpr (Or.inl (List.mem_singleton.mp h)), List.forall_mem_cons.mpr ⟨fun _ h => List.mem_cons_of_mem _ (List.mem_append_left _ (List.mem_append_left _ h)), List.forall_mem_cons.mpr ⟨fun _ h => List.mem_cons_of_mem _ (List.mem_append_left _ (List.mem_append_right _ h)), List.forall_mem_cons.mpr ⟨fun _ h => List.mem_cons_of_mem _ (List.mem_append_right _ h), fun l h => absurd h List.not_mem_nil⟩⟩⟩⟩
set_option maxRecDepth 20000 in
theorem ggX11_keeper_X11_isStrength : GoodIn wsX11_keeper wsX11_isStrength := goodIn_r2 csX11_keeper ciX11_keeper _ [(1, 5)] rfl rfl
set_option maxRecDepth 20000 in
theorem gX11_keeper_X11_isStrength : GoodIn wsX11_keeper (va_wsS RX11 131 yX11_isStrength wsX11_isStrength) := goodIn_app (goodIn_r2 csX11_keeper ciX11_keeper _ [(1, 2), (1, 3), (1, 4)] rfl rfl) ggX11_keeper_X11_isStrength
set_option maxRecDepth 20000 in
theorem ggX11_keeper_X2_add : GoodIn wsX11_keeper wsX2_add := goodIn_r2 csX11_keeper ciX11_keeper _ [(1, 10), (1, 11), (1, 12), (1, 13), (1, 14), (1, 15), (3, 0), (3, 1), (3, 2), (3, 3), (3, 4), (3, 5)] rfl rfl
set_option maxRecDepth 20000 in
theorem gX11_keeper_X2_add : GoodIn wsX11_keeper (wsV RX11 135 RX2 yX2_add wsX2_add) := goodIn_app (goodIn_r2 csX11_keeper ciX11_keeper _ [(1, 6), (1, 7), (1, 8), (1, 9)] rfl rfl) ggX11_keeper_X2_add
theorem daX11_keeper_R14 : ([(0, .iload_n 1, 1), (1, .ifCond .lt 15, 3), (4, .iload_n 1, 1), (5, .iconst 5, 1), (6, .if_icmp .gt 10, 3), (9, .iload_n 2, 1), (10, .invokestatic 131, 3), (13, .ifCond .ne 5, 3), (16, .iconst (-1), 1), (17, .ireturn, 1), (18, .aload_n 0, 1), (19, .getfield 26, 3), (22, .getfield 134, 3), (25, .bipush 12, 2), (27, .if_icmp .lt 6, 3), (33, .aload_n 0, 1), (34, .getfield 26, 3), (37, .iload_n 1, 1), (38, .iload_n 2, 1), (39, .invokevirtual 135, 3), (42, .ireturn, 1)] : List (Nat × Instr × Nat)).all (fun x => decide (decode cX11_keeper x.1 = .ok x.2)) = true := by decide +kernel
theorem dX11_keeper_0 : decode cX11_keeper 0 = .ok (.iload_n 1, 1) := dq_at daX11_keeper_R14 (i := 0) rfl
theorem dX11_keeper_1 : decode cX11_keeper 1 = .ok (.ifCond .lt 15, 3) := dq_at daX11_keeper_R14 (i := 1) rfl
theorem dX11_keeper_4 : decode cX11_keeper 4 = .ok (.iload_n 1, 1) := dq_at daX11_keeper_R14 (i := 2) rfl
theorem dX11_keeper_5 : decode cX11_keeper 5 = .ok (.iconst 5, 1) := dq_at daX11_keeper_R14 (i := 3) rfl
theorem dX11_keeper_6 : decode cX11_keeper 6 = .ok (.if_icmp .gt 10, 3) := dq_at daX11_keeper_R14 (i := 4) rfl
theorem dX11_keeper_9 : decode cX11_keeper 9 = .ok (.iload_n 2, 1) := dq_at daX11_keeper_R14 (i := 5) rfl
theorem dX11_keeper_10 : decode cX11_keeper 10 = .ok (.invokestatic 131, 3) := dq_at daX11_keeper_R14 (i := 6) rfl
theorem dX11_keeper_13 : decode cX11_keeper 13 = .ok (.ifCond .ne 5, 3) := dq_at daX11_keeper_R14 (i := 7) rfl
theorem dX11_keeper_16 : decode cX11_keeper 16 = .ok (.iconst (-1), 1) := dq_at daX11_keeper_R14 (i := 8) rfl
theorem dX11_keeper_17 : decode cX11_keeper 17 = .ok (.ireturn, 1) := dq_at daX11_keeper_R14 (i := 9) rfl
theorem dX11_keeper_18 : decode cX11_keeper 18 = .ok (.aload_n 0, 1) := dq_at daX11_keeper_R14 (i := 10) rfl
theorem dX11_keeper_19 : decode cX11_keeper 19 = .ok (.getfield 26, 3) := dq_at daX11_keeper_R14 (i := 11) rfl
theorem dX11_keeper_22 : decode cX11_keeper 22 = .ok (.getfield 134, 3) := dq_at daX11_keeper_R14 (i := 12) rfl
theorem dX11_keeper_25 : decode cX11_keeper 25 = .ok (.bipush 12, 2) := dq_at daX11_keeper_R14 (i := 13) rfl
theorem dX11_keeper_27 : decode cX11_keeper 27 = .ok (.if_icmp .lt 6, 3) := dq_at daX11_keeper_R14 (i := 14) rfl
theorem dX11_keeper_33 : decode cX11_keeper 33 = .ok (.aload_n 0, 1) := dq_at daX11_keeper_R14 (i := 15) rfl
theorem dX11_keeper_34 : decode cX11_keeper 34 = .ok (.getfield 26, 3) := dq_at daX11_keeper_R14 (i := 16) rfl
theorem dX11_keeper_37 : decode cX11_keeper 37 = .ok (.iload_n 1, 1) := dq_at daX11_keeper_R14 (i := 17) rfl
theorem dX11_keeper_38 : decode cX11_keeper 38 = .ok (.iload_n 2, 1) := dq_at daX11_keeper_R14 (i := 18) rfl
theorem dX11_keeper_39 : decode cX11_keeper 39 = .ok (.invokevirtual 135, 3) := dq_at daX11_keeper_R14 (i := 19) rfl
theorem dX11_keeper_42 : decode cX11_keeper 42 = .ok (.ireturn, 1) := dq_at daX11_keeper_R14 (i := 20) rfl
noncomputable def csX11_become : List (List Cond) := [[Cond.code yX11_become cX11_become 4 (some .int)], wsX11_become_r1, wsX11_become_r2, wsX110, wsX20, wsX60, wsX40]
set_option maxRecDepth 20000 in
theorem ciX11_become : ∀ l ∈ csX11_become, ∀ w ∈ l, w ∈ wsX11_become := by
  unfold csX11_become
  refine List.forall_mem_cons.mpr ⟨fun _ h => List.mem_cons.mpr (Or.inl (List.mem_singleton.mp h)), List.forall_mem_cons.mpr ⟨fun _ h => List.mem_cons_of_mem _ (List.mem_append_left _ (List.mem_append_left _ (List.mem_append_left _ (List.mem_append_left _ (List.mem_append_left _ h))))), List.forall_mem_cons.mpr ⟨fun _ h => List.mem_cons_of_mem _ (List.mem_append_left _ (List.mem_append_left _ (List.mem_append_left _ (List.mem_append_left _ (List.mem_append_right _ h))))), List.forall_mem_cons.mpr ⟨fun _ h => List.mem_cons_of_mem _ (List.mem_append_left _ (List.mem_append_left _ (List.mem_append_left _ (List.mem_append_right _ h)))), List.forall_mem_cons.mpr ⟨fun _ h => List.mem_cons_of_mem _ (List.mem_append_left _ (List.mem_append_left _ (List.mem_append_right _ h))), List.forall_mem_cons.mpr ⟨fun _ h => List.mem_cons_of_mem _ (List.mem_append_left _ (List.mem_append_right _ h)), List.forall_mem_cons.mpr ⟨fun _ h => List.mem_cons_of_mem _ (List.mem_append_right _ h), fun l h => absurd h List.not_mem_nil⟩⟩⟩⟩⟩⟩⟩
set_option maxRecDepth 20000 in
theorem ggX11_become_X2_has : GoodIn wsX11_become wsX2_has := goodIn_r2 csX11_become ciX11_become _ [(1, 7), (1, 8), (4, 0), (4, 1), (4, 2), (4, 3), (4, 4), (4, 5)] rfl rfl
set_option maxRecDepth 20000 in
theorem gX11_become_X2_has : GoodIn wsX11_become (wsV RX11 137 RX2 yX2_has wsX2_has) := goodIn_app (goodIn_r2 csX11_become ciX11_become _ [(1, 3), (1, 4), (1, 5), (1, 6)] rfl rfl) ggX11_become_X2_has
theorem daX11_become_R15 : ([(0, .aload_n 0, 1), (1, .getfield 26, 3), (4, .iload_n 1, 1), (5, .invokevirtual 137, 3), (8, .ifCond .eq 10, 3), (18, .iconst (-1), 1), (19, .ireturn, 1)] : List (Nat × Instr × Nat)).all (fun x => decide (decode cX11_become x.1 = .ok x.2)) = true := by decide +kernel
theorem dX11_become_0 : decode cX11_become 0 = .ok (.aload_n 0, 1) := dq_at daX11_become_R15 (i := 0) rfl
theorem dX11_become_1 : decode cX11_become 1 = .ok (.getfield 26, 3) := dq_at daX11_become_R15 (i := 1) rfl
theorem dX11_become_4 : decode cX11_become 4 = .ok (.iload_n 1, 1) := dq_at daX11_become_R15 (i := 2) rfl
theorem dX11_become_5 : decode cX11_become 5 = .ok (.invokevirtual 137, 3) := dq_at daX11_become_R15 (i := 3) rfl
theorem dX11_become_8 : decode cX11_become 8 = .ok (.ifCond .eq 10, 3) := dq_at daX11_become_R15 (i := 4) rfl
theorem dX11_become_18 : decode cX11_become 18 = .ok (.iconst (-1), 1) := dq_at daX11_become_R15 (i := 5) rfl
theorem dX11_become_19 : decode cX11_become 19 = .ok (.ireturn, 1) := dq_at daX11_become_R15 (i := 6) rfl
noncomputable def csX11_strength : List (List Cond) := [[Cond.code yX11_strength cX11_strength 4 (some .int)], [Cond.fieldLink RX11 26 "SeatsRound" "keepers" "LSeatsRound$Keepers;", Cond.fieldLink RX11 149 "SeatsRound$Keepers" "strength" "[I", Cond.methodLink RX11 137 yX2_has, Cond.instanceMethod yX2_has, Cond.selects RX2 yX2_has yX2_has, Cond.initialized RX2, Cond.code yX2_has cX2_has 2 (some .boolean), Cond.fieldLink RX2 28 "SeatsRound$Keepers" "count" "I", Cond.methodLink RX11 131 yX11_isStrength, Cond.static yX11_isStrength, Cond.initialized RX11, Cond.code yX11_isStrength cX11_isStrength 1 (some .boolean)], wsX110, wsX20]
set_option maxRecDepth 20000 in
theorem ciX11_strength : ∀ l ∈ csX11_strength, ∀ w ∈ l, w ∈ wsX11_strength := by
  unfold csX11_strength
  refine List.forall_mem_cons.mpr ⟨fun _ h => List.mem_cons.mpr (Or.inl (List.mem_singleton.mp h)), List.forall_mem_cons.mpr ⟨fun _ h => List.mem_cons_of_mem _ (List.mem_append_left _ (List.mem_append_left _ h)), List.forall_mem_cons.mpr ⟨fun _ h => List.mem_cons_of_mem _ (List.mem_append_left _ (List.mem_append_right _ h)), List.forall_mem_cons.mpr ⟨fun _ h => List.mem_cons_of_mem _ (List.mem_append_right _ h), fun l h => absurd h List.not_mem_nil⟩⟩⟩⟩
set_option maxRecDepth 20000 in
theorem ggX11_strength_X2_has : GoodIn wsX11_strength wsX2_has := goodIn_r2 csX11_strength ciX11_strength _ [(1, 6), (1, 7), (3, 0), (3, 1), (3, 2), (3, 3), (3, 4), (3, 5)] rfl rfl
set_option maxRecDepth 20000 in
theorem gX11_strength_X2_has : GoodIn wsX11_strength (wsV RX11 137 RX2 yX2_has wsX2_has) := goodIn_app (goodIn_r2 csX11_strength ciX11_strength _ [(1, 2), (1, 3), (1, 4), (1, 5)] rfl rfl) ggX11_strength_X2_has
theorem daX11_strength_R16 : ([(0, .aload_n 0, 1), (1, .getfield 26, 3), (4, .iload_n 1, 1), (5, .invokevirtual 137, 3), (8, .ifCond .eq 10, 3), (18, .iconst (-1), 1), (19, .ireturn, 1)] : List (Nat × Instr × Nat)).all (fun x => decide (decode cX11_strength x.1 = .ok x.2)) = true := by decide +kernel
theorem dX11_strength_0 : decode cX11_strength 0 = .ok (.aload_n 0, 1) := dq_at daX11_strength_R16 (i := 0) rfl
theorem dX11_strength_1 : decode cX11_strength 1 = .ok (.getfield 26, 3) := dq_at daX11_strength_R16 (i := 1) rfl
theorem dX11_strength_4 : decode cX11_strength 4 = .ok (.iload_n 1, 1) := dq_at daX11_strength_R16 (i := 2) rfl
theorem dX11_strength_5 : decode cX11_strength 5 = .ok (.invokevirtual 137, 3) := dq_at daX11_strength_R16 (i := 3) rfl
theorem dX11_strength_8 : decode cX11_strength 8 = .ok (.ifCond .eq 10, 3) := dq_at daX11_strength_R16 (i := 4) rfl
theorem dX11_strength_18 : decode cX11_strength 18 = .ok (.iconst (-1), 1) := dq_at daX11_strength_R16 (i := 5) rfl
theorem dX11_strength_19 : decode cX11_strength 19 = .ok (.ireturn, 1) := dq_at daX11_strength_R16 (i := 6) rfl
noncomputable def csX11_ofKeeper : List (List Cond) := [[Cond.code yX11_ofKeeper cX11_ofKeeper 3 (some .int)], wsX11_ofKeeper_r1, wsX11_ofKeeper_r2, wsX110, wsX20, wsX60]
set_option maxRecDepth 20000 in
theorem ciX11_ofKeeper : ∀ l ∈ csX11_ofKeeper, ∀ w ∈ l, w ∈ wsX11_ofKeeper := by
  unfold csX11_ofKeeper
  refine List.forall_mem_cons.mpr ⟨fun _ h => List.mem_cons.mpr (Or.inl (List.mem_singleton.mp h)), List.forall_mem_cons.mpr ⟨fun _ h => List.mem_cons_of_mem _ (List.mem_append_left _ (List.mem_append_left _ (List.mem_append_left _ (List.mem_append_left _ h)))), List.forall_mem_cons.mpr ⟨fun _ h => List.mem_cons_of_mem _ (List.mem_append_left _ (List.mem_append_left _ (List.mem_append_left _ (List.mem_append_right _ h)))), List.forall_mem_cons.mpr ⟨fun _ h => List.mem_cons_of_mem _ (List.mem_append_left _ (List.mem_append_left _ (List.mem_append_right _ h))), List.forall_mem_cons.mpr ⟨fun _ h => List.mem_cons_of_mem _ (List.mem_append_left _ (List.mem_append_right _ h)), List.forall_mem_cons.mpr ⟨fun _ h => List.mem_cons_of_mem _ (List.mem_append_right _ h), fun l h => absurd h List.not_mem_nil⟩⟩⟩⟩⟩⟩
set_option maxRecDepth 20000 in
theorem ggX11_ofKeeper_X2_has : GoodIn wsX11_ofKeeper wsX2_has := goodIn_r2 csX11_ofKeeper ciX11_ofKeeper _ [(1, 12), (1, 13), (4, 0), (4, 1), (4, 2), (4, 3), (4, 4), (4, 5)] rfl rfl
set_option maxRecDepth 20000 in
theorem gX11_ofKeeper_X2_has : GoodIn wsX11_ofKeeper (wsV RX11 137 RX2 yX2_has wsX2_has) := goodIn_app (goodIn_r2 csX11_ofKeeper ciX11_ofKeeper _ [(1, 8), (1, 9), (1, 10), (1, 11)] rfl rfl) ggX11_ofKeeper_X2_has
theorem daX11_ofKeeper_R17 : ([(0, .aload_n 0, 1), (1, .getfield 26, 3), (4, .iload_n 1, 1), (5, .invokevirtual 137, 3), (8, .ifCond .ne 6, 3), (11, .ldc 152, 2), (13, .ireturn, 1)] : List (Nat × Instr × Nat)).all (fun x => decide (decode cX11_ofKeeper x.1 = .ok x.2)) = true := by decide +kernel
theorem dX11_ofKeeper_0 : decode cX11_ofKeeper 0 = .ok (.aload_n 0, 1) := dq_at daX11_ofKeeper_R17 (i := 0) rfl
theorem dX11_ofKeeper_1 : decode cX11_ofKeeper 1 = .ok (.getfield 26, 3) := dq_at daX11_ofKeeper_R17 (i := 1) rfl
theorem dX11_ofKeeper_4 : decode cX11_ofKeeper 4 = .ok (.iload_n 1, 1) := dq_at daX11_ofKeeper_R17 (i := 2) rfl
theorem dX11_ofKeeper_5 : decode cX11_ofKeeper 5 = .ok (.invokevirtual 137, 3) := dq_at daX11_ofKeeper_R17 (i := 3) rfl
theorem dX11_ofKeeper_8 : decode cX11_ofKeeper 8 = .ok (.ifCond .ne 6, 3) := dq_at daX11_ofKeeper_R17 (i := 4) rfl
theorem dX11_ofKeeper_11 : decode cX11_ofKeeper 11 = .ok (.ldc 152, 2) := dq_at daX11_ofKeeper_R17 (i := 5) rfl
theorem dX11_ofKeeper_13 : decode cX11_ofKeeper 13 = .ok (.ireturn, 1) := dq_at daX11_ofKeeper_R17 (i := 6) rfl
theorem daX11_isKind_R18 : ([(0, .iload_n 0, 1), (1, .ifCond .lt 13, 3), (4, .iload_n 0, 1), (5, .bipush 6, 2), (7, .if_icmp .gt 7, 3), (10, .iconst 1, 1), (11, .goto 4, 3), (14, .iconst 0, 1), (15, .ireturn, 1)] : List (Nat × Instr × Nat)).all (fun x => decide (decode cX11_isKind x.1 = .ok x.2)) = true := by decide +kernel
theorem dX11_isKind_0 : decode cX11_isKind 0 = .ok (.iload_n 0, 1) := dq_at daX11_isKind_R18 (i := 0) rfl
theorem dX11_isKind_1 : decode cX11_isKind 1 = .ok (.ifCond .lt 13, 3) := dq_at daX11_isKind_R18 (i := 1) rfl
theorem dX11_isKind_4 : decode cX11_isKind 4 = .ok (.iload_n 0, 1) := dq_at daX11_isKind_R18 (i := 2) rfl
theorem dX11_isKind_5 : decode cX11_isKind 5 = .ok (.bipush 6, 2) := dq_at daX11_isKind_R18 (i := 3) rfl
theorem dX11_isKind_7 : decode cX11_isKind 7 = .ok (.if_icmp .gt 7, 3) := dq_at daX11_isKind_R18 (i := 4) rfl
theorem dX11_isKind_10 : decode cX11_isKind 10 = .ok (.iconst 1, 1) := dq_at daX11_isKind_R18 (i := 5) rfl
theorem dX11_isKind_11 : decode cX11_isKind 11 = .ok (.goto 4, 3) := dq_at daX11_isKind_R18 (i := 6) rfl
theorem dX11_isKind_14 : decode cX11_isKind 14 = .ok (.iconst 0, 1) := dq_at daX11_isKind_R18 (i := 7) rfl
theorem dX11_isKind_15 : decode cX11_isKind 15 = .ok (.ireturn, 1) := dq_at daX11_isKind_R18 (i := 8) rfl
theorem daX11_isStrength_R19 : ([(0, .iload_n 0, 1), (1, .iconst 1, 1), (2, .if_icmp .lt 13, 3), (5, .iload_n 0, 1), (6, .bipush 8, 2), (8, .if_icmp .gt 7, 3), (11, .iconst 1, 1), (12, .goto 4, 3), (15, .iconst 0, 1), (16, .ireturn, 1)] : List (Nat × Instr × Nat)).all (fun x => decide (decode cX11_isStrength x.1 = .ok x.2)) = true := by decide +kernel
theorem dX11_isStrength_0 : decode cX11_isStrength 0 = .ok (.iload_n 0, 1) := dq_at daX11_isStrength_R19 (i := 0) rfl
theorem dX11_isStrength_1 : decode cX11_isStrength 1 = .ok (.iconst 1, 1) := dq_at daX11_isStrength_R19 (i := 1) rfl
theorem dX11_isStrength_2 : decode cX11_isStrength 2 = .ok (.if_icmp .lt 13, 3) := dq_at daX11_isStrength_R19 (i := 2) rfl
theorem dX11_isStrength_5 : decode cX11_isStrength 5 = .ok (.iload_n 0, 1) := dq_at daX11_isStrength_R19 (i := 3) rfl
theorem dX11_isStrength_6 : decode cX11_isStrength 6 = .ok (.bipush 8, 2) := dq_at daX11_isStrength_R19 (i := 4) rfl
theorem dX11_isStrength_8 : decode cX11_isStrength 8 = .ok (.if_icmp .gt 7, 3) := dq_at daX11_isStrength_R19 (i := 5) rfl
theorem dX11_isStrength_11 : decode cX11_isStrength 11 = .ok (.iconst 1, 1) := dq_at daX11_isStrength_R19 (i := 6) rfl
theorem dX11_isStrength_12 : decode cX11_isStrength 12 = .ok (.goto 4, 3) := dq_at daX11_isStrength_R19 (i := 7) rfl
theorem dX11_isStrength_15 : decode cX11_isStrength 15 = .ok (.iconst 0, 1) := dq_at daX11_isStrength_R19 (i := 8) rfl
theorem dX11_isStrength_16 : decode cX11_isStrength 16 = .ok (.ireturn, 1) := dq_at daX11_isStrength_R19 (i := 9) rfl
theorem daX11_table_R20 : ([(0, .iconst 1, 1), (1, .aload_n 0, 1), (2, .getfield 26, 3), (5, .getfield 134, 3), (8, .ishl, 1), (9, .iconst 1, 1), (10, .isub, 1), (11, .istore_n 3, 1), (12, .iload_n 1, 1), (13, .ifCond .eq 11, 3), (16, .iload_n 1, 1), (17, .iload_n 3, 1), (18, .iconst (-1), 1), (19, .ixor, 1), (20, .iand, 1), (21, .ifCond .eq 5, 3), (24, .iconst (-1), 1), (25, .ireturn, 1)] : List (Nat × Instr × Nat)).all (fun x => decide (decode cX11_table x.1 = .ok x.2)) = true := by decide +kernel
theorem dX11_table_0 : decode cX11_table 0 = .ok (.iconst 1, 1) := dq_at daX11_table_R20 (i := 0) rfl
theorem dX11_table_1 : decode cX11_table 1 = .ok (.aload_n 0, 1) := dq_at daX11_table_R20 (i := 1) rfl
theorem dX11_table_2 : decode cX11_table 2 = .ok (.getfield 26, 3) := dq_at daX11_table_R20 (i := 2) rfl
theorem dX11_table_5 : decode cX11_table 5 = .ok (.getfield 134, 3) := dq_at daX11_table_R20 (i := 3) rfl
theorem dX11_table_8 : decode cX11_table 8 = .ok (.ishl, 1) := dq_at daX11_table_R20 (i := 4) rfl
theorem dX11_table_9 : decode cX11_table 9 = .ok (.iconst 1, 1) := dq_at daX11_table_R20 (i := 5) rfl
theorem dX11_table_10 : decode cX11_table 10 = .ok (.isub, 1) := dq_at daX11_table_R20 (i := 6) rfl
theorem dX11_table_11 : decode cX11_table 11 = .ok (.istore_n 3, 1) := dq_at daX11_table_R20 (i := 7) rfl
theorem dX11_table_12 : decode cX11_table 12 = .ok (.iload_n 1, 1) := dq_at daX11_table_R20 (i := 8) rfl
theorem dX11_table_13 : decode cX11_table 13 = .ok (.ifCond .eq 11, 3) := dq_at daX11_table_R20 (i := 9) rfl
theorem dX11_table_16 : decode cX11_table 16 = .ok (.iload_n 1, 1) := dq_at daX11_table_R20 (i := 10) rfl
theorem dX11_table_17 : decode cX11_table 17 = .ok (.iload_n 3, 1) := dq_at daX11_table_R20 (i := 11) rfl
theorem dX11_table_18 : decode cX11_table 18 = .ok (.iconst (-1), 1) := dq_at daX11_table_R20 (i := 12) rfl
theorem dX11_table_19 : decode cX11_table 19 = .ok (.ixor, 1) := dq_at daX11_table_R20 (i := 13) rfl
theorem dX11_table_20 : decode cX11_table 20 = .ok (.iand, 1) := dq_at daX11_table_R20 (i := 14) rfl
theorem dX11_table_21 : decode cX11_table 21 = .ok (.ifCond .eq 5, 3) := dq_at daX11_table_R20 (i := 15) rfl
theorem dX11_table_24 : decode cX11_table 24 = .ok (.iconst (-1), 1) := dq_at daX11_table_R20 (i := 16) rfl
theorem dX11_table_25 : decode cX11_table 25 = .ok (.ireturn, 1) := dq_at daX11_table_R20 (i := 17) rfl
noncomputable def csX11_ofTable : List (List Cond) := [[Cond.code yX11_ofTable cX11_ofTable 4 (some .int)], wsX11_ofTable_r1, wsX11_ofTable_r2, wsX11_ofTable_r3, wsX80, wsX110]
set_option maxRecDepth 20000 in
theorem ciX11_ofTable : ∀ l ∈ csX11_ofTable, ∀ w ∈ l, w ∈ wsX11_ofTable := by
  unfold csX11_ofTable
  refine List.forall_mem_cons.mpr ⟨fun _ h => List.mem_cons.mpr (Or.inl (List.mem_singleton.mp h)), List.forall_mem_cons.mpr ⟨fun _ h => List.mem_cons_of_mem _ (List.mem_append_left _ (List.mem_append_left _ (List.mem_append_left _ h))), List.forall_mem_cons.mpr ⟨fun _ h => List.mem_cons_of_mem _ (List.mem_append_left _ (List.mem_append_left _ (List.mem_append_right _ (List.mem_append_left _ h)))), List.forall_mem_cons.mpr ⟨fun _ h => List.mem_cons_of_mem _ (List.mem_append_left _ (List.mem_append_left _ (List.mem_append_right _ (List.mem_append_right _ h)))), List.forall_mem_cons.mpr ⟨fun _ h => List.mem_cons_of_mem _ (List.mem_append_left _ (List.mem_append_right _ h)), List.forall_mem_cons.mpr ⟨fun _ h => List.mem_cons_of_mem _ (List.mem_append_right _ h), fun l h => absurd h List.not_mem_nil⟩⟩⟩⟩⟩⟩
set_option maxRecDepth 20000 in
theorem ggX11_ofTable_X11_tableAt : GoodIn wsX11_ofTable wsX11_tableAt := goodIn_r2 csX11_ofTable ciX11_ofTable _ [(1, 9), (1, 10), (1, 11), (5, 0), (5, 1), (5, 2), (5, 3), (5, 4), (5, 5), (5, 6), (5, 7), (5, 8), (5, 9), (5, 10), (5, 11), (5, 12)] rfl rfl
set_option maxRecDepth 20000 in
theorem gX11_ofTable_X11_tableAt : GoodIn wsX11_ofTable (wsV RX11 192 RX11 yX11_tableAt wsX11_tableAt) := goodIn_app (goodIn_r2 csX11_ofTable ciX11_ofTable _ [(1, 5), (1, 6), (1, 7), (1, 8)] rfl rfl) ggX11_ofTable_X11_tableAt
theorem daX11_ofTable_R21 : ([(0, .aload_n 0, 1), (1, .iload_n 1, 1), (2, .invokevirtual 192, 3), (5, .astore_n 3, 1), (6, .aload_n 3, 1), (7, .ifnonnull 5, 3), (10, .iconst (-1), 1), (11, .ireturn, 1)] : List (Nat × Instr × Nat)).all (fun x => decide (decode cX11_ofTable x.1 = .ok x.2)) = true := by decide +kernel
theorem dX11_ofTable_0 : decode cX11_ofTable 0 = .ok (.aload_n 0, 1) := dq_at daX11_ofTable_R21 (i := 0) rfl
theorem dX11_ofTable_1 : decode cX11_ofTable 1 = .ok (.iload_n 1, 1) := dq_at daX11_ofTable_R21 (i := 1) rfl
theorem dX11_ofTable_2 : decode cX11_ofTable 2 = .ok (.invokevirtual 192, 3) := dq_at daX11_ofTable_R21 (i := 2) rfl
theorem dX11_ofTable_5 : decode cX11_ofTable 5 = .ok (.astore_n 3, 1) := dq_at daX11_ofTable_R21 (i := 3) rfl
theorem dX11_ofTable_6 : decode cX11_ofTable 6 = .ok (.aload_n 3, 1) := dq_at daX11_ofTable_R21 (i := 4) rfl
theorem dX11_ofTable_7 : decode cX11_ofTable 7 = .ok (.ifnonnull 5, 3) := dq_at daX11_ofTable_R21 (i := 5) rfl
theorem dX11_ofTable_10 : decode cX11_ofTable 10 = .ok (.iconst (-1), 1) := dq_at daX11_ofTable_R21 (i := 6) rfl
theorem dX11_ofTable_11 : decode cX11_ofTable 11 = .ok (.ireturn, 1) := dq_at daX11_ofTable_R21 (i := 7) rfl
noncomputable def csX11_seat : List (List Cond) := [[Cond.code yX11_seat cX11_seat 4 (some .int)], [Cond.fieldLink RX11 218 "SeatsRound$Table" "owner" "[B", Cond.methodLink RX11 192 yX11_tableAt, Cond.instanceMethod yX11_tableAt, Cond.selects RX11 yX11_tableAt yX11_tableAt, Cond.initialized RX11, Cond.code yX11_tableAt cX11_tableAt 2 (some (.object "SeatsRound$Table")), Cond.fieldLink RX11 52 "SeatsRound" "tableCount" "I", Cond.fieldLink RX11 48 "SeatsRound" "tables" "[LSeatsRound$Table;", Cond.methodLink RX11 215 yX11_isPlace, Cond.static yX11_isPlace, Cond.code yX11_isPlace cX11_isPlace 1 (some .boolean)], wsX80, wsX110]
set_option maxRecDepth 20000 in
theorem ciX11_seat : ∀ l ∈ csX11_seat, ∀ w ∈ l, w ∈ wsX11_seat := by
  unfold csX11_seat
  refine List.forall_mem_cons.mpr ⟨fun _ h => List.mem_cons.mpr (Or.inl (List.mem_singleton.mp h)), List.forall_mem_cons.mpr ⟨fun _ h => List.mem_cons_of_mem _ (List.mem_append_left _ (List.mem_append_left _ h)), List.forall_mem_cons.mpr ⟨fun _ h => List.mem_cons_of_mem _ (List.mem_append_left _ (List.mem_append_right _ h)), List.forall_mem_cons.mpr ⟨fun _ h => List.mem_cons_of_mem _ (List.mem_append_right _ h), fun l h => absurd h List.not_mem_nil⟩⟩⟩⟩
set_option maxRecDepth 20000 in
theorem ggX11_seat_X11_tableAt : GoodIn wsX11_seat wsX11_tableAt := goodIn_r2 csX11_seat ciX11_seat _ [(1, 5), (1, 6), (1, 7), (3, 0), (3, 1), (3, 2), (3, 3), (3, 4), (3, 5), (3, 6), (3, 7), (3, 8), (3, 9), (3, 10), (3, 11), (3, 12)] rfl rfl
set_option maxRecDepth 20000 in
theorem gX11_seat_X11_tableAt : GoodIn wsX11_seat (wsV RX11 192 RX11 yX11_tableAt wsX11_tableAt) := goodIn_app (goodIn_r2 csX11_seat ciX11_seat _ [(1, 1), (1, 2), (1, 3), (1, 4)] rfl rfl) ggX11_seat_X11_tableAt
theorem daX11_seat_R22 : ([(0, .aload_n 0, 1), (1, .iload_n 1, 1), (2, .invokevirtual 192, 3), (5, .astore_n 3, 1), (6, .aload_n 3, 1), (7, .ifnull 10, 3), (17, .iconst (-1), 1), (18, .ireturn, 1)] : List (Nat × Instr × Nat)).all (fun x => decide (decode cX11_seat x.1 = .ok x.2)) = true := by decide +kernel
theorem dX11_seat_0 : decode cX11_seat 0 = .ok (.aload_n 0, 1) := dq_at daX11_seat_R22 (i := 0) rfl
theorem dX11_seat_1 : decode cX11_seat 1 = .ok (.iload_n 1, 1) := dq_at daX11_seat_R22 (i := 1) rfl
theorem dX11_seat_2 : decode cX11_seat 2 = .ok (.invokevirtual 192, 3) := dq_at daX11_seat_R22 (i := 2) rfl
theorem dX11_seat_5 : decode cX11_seat 5 = .ok (.astore_n 3, 1) := dq_at daX11_seat_R22 (i := 3) rfl
theorem dX11_seat_6 : decode cX11_seat 6 = .ok (.aload_n 3, 1) := dq_at daX11_seat_R22 (i := 4) rfl
theorem dX11_seat_7 : decode cX11_seat 7 = .ok (.ifnull 10, 3) := dq_at daX11_seat_R22 (i := 5) rfl
theorem dX11_seat_17 : decode cX11_seat 17 = .ok (.iconst (-1), 1) := dq_at daX11_seat_R22 (i := 6) rfl
theorem dX11_seat_18 : decode cX11_seat 18 = .ok (.ireturn, 1) := dq_at daX11_seat_R22 (i := 7) rfl
noncomputable def csX11_picked : List (List Cond) := [[Cond.code yX11_picked cX11_picked 5 (some .int)], wsX11_picked_r1, wsX11_picked_r2, wsX11_picked_r3, wsX110, wsX10, wsX80]
set_option maxRecDepth 20000 in
theorem ciX11_picked : ∀ l ∈ csX11_picked, ∀ w ∈ l, w ∈ wsX11_picked := by
  unfold csX11_picked
  refine List.forall_mem_cons.mpr ⟨fun _ h => List.mem_cons.mpr (Or.inl (List.mem_singleton.mp h)), List.forall_mem_cons.mpr ⟨fun _ h => List.mem_cons_of_mem _ (List.mem_append_left _ (List.mem_append_left _ (List.mem_append_left _ (List.mem_append_left _ h)))), List.forall_mem_cons.mpr ⟨fun _ h => List.mem_cons_of_mem _ (List.mem_append_left _ (List.mem_append_left _ (List.mem_append_left _ (List.mem_append_right _ (List.mem_append_left _ h))))), List.forall_mem_cons.mpr ⟨fun _ h => List.mem_cons_of_mem _ (List.mem_append_left _ (List.mem_append_left _ (List.mem_append_left _ (List.mem_append_right _ (List.mem_append_right _ h))))), List.forall_mem_cons.mpr ⟨fun _ h => List.mem_cons_of_mem _ (List.mem_append_left _ (List.mem_append_left _ (List.mem_append_right _ h))), List.forall_mem_cons.mpr ⟨fun _ h => List.mem_cons_of_mem _ (List.mem_append_left _ (List.mem_append_right _ h)), List.forall_mem_cons.mpr ⟨fun _ h => List.mem_cons_of_mem _ (List.mem_append_right _ h), fun l h => absurd h List.not_mem_nil⟩⟩⟩⟩⟩⟩⟩
set_option maxRecDepth 20000 in
theorem ggX11_picked_X11_tableAt : GoodIn wsX11_picked wsX11_tableAt := goodIn_r2 csX11_picked ciX11_picked _ [(1, 7), (1, 8), (1, 9), (4, 0), (4, 1), (4, 2), (4, 3), (4, 4), (4, 5), (4, 6), (4, 7), (4, 8), (4, 9), (4, 10), (4, 11), (4, 12)] rfl rfl
set_option maxRecDepth 20000 in
theorem gX11_picked_X11_tableAt : GoodIn wsX11_picked (wsV RX11 192 RX11 yX11_tableAt wsX11_tableAt) := goodIn_app (goodIn_r2 csX11_picked ciX11_picked _ [(1, 3), (1, 4), (1, 5), (1, 6)] rfl rfl) ggX11_picked_X11_tableAt
theorem daX11_picked_R23 : ([(0, .aload_n 0, 1), (1, .iload_n 1, 1), (2, .invokevirtual 192, 3), (5, .astore 4, 2), (7, .aload 4, 2), (9, .ifnull 14, 3), (23, .iconst (-1), 1), (24, .ireturn, 1)] : List (Nat × Instr × Nat)).all (fun x => decide (decode cX11_picked x.1 = .ok x.2)) = true := by decide +kernel
theorem dX11_picked_0 : decode cX11_picked 0 = .ok (.aload_n 0, 1) := dq_at daX11_picked_R23 (i := 0) rfl
theorem dX11_picked_1 : decode cX11_picked 1 = .ok (.iload_n 1, 1) := dq_at daX11_picked_R23 (i := 1) rfl
theorem dX11_picked_2 : decode cX11_picked 2 = .ok (.invokevirtual 192, 3) := dq_at daX11_picked_R23 (i := 2) rfl
theorem dX11_picked_5 : decode cX11_picked 5 = .ok (.astore 4, 2) := dq_at daX11_picked_R23 (i := 3) rfl
theorem dX11_picked_7 : decode cX11_picked 7 = .ok (.aload 4, 2) := dq_at daX11_picked_R23 (i := 4) rfl
theorem dX11_picked_9 : decode cX11_picked 9 = .ok (.ifnull 14, 3) := dq_at daX11_picked_R23 (i := 5) rfl
theorem dX11_picked_23 : decode cX11_picked 23 = .ok (.iconst (-1), 1) := dq_at daX11_picked_R23 (i := 6) rfl
theorem dX11_picked_24 : decode cX11_picked 24 = .ok (.ireturn, 1) := dq_at daX11_picked_R23 (i := 7) rfl
noncomputable def csX11_keeperOf : List (List Cond) := [[Cond.code yX11_keeperOf cX11_keeperOf 5 (some .int)], wsX11_keeperOf_r1, wsX11_keeperOf_r2, wsX11_keeperOf_r3, wsX11_keeperOf_r4, wsX11_keeperOf_r5, wsX110, wsX80, wsX10, wsX40, wsX20]
set_option maxRecDepth 20000 in
theorem ciX11_keeperOf : ∀ l ∈ csX11_keeperOf, ∀ w ∈ l, w ∈ wsX11_keeperOf := by
  unfold csX11_keeperOf
  refine List.forall_mem_cons.mpr ⟨fun _ h => List.mem_cons.mpr (Or.inl (List.mem_singleton.mp h)), List.forall_mem_cons.mpr ⟨fun _ h => List.mem_cons_of_mem _ (List.mem_append_left _ (List.mem_append_left _ (List.mem_append_left _ (List.mem_append_left _ (List.mem_append_left _ (List.mem_append_left _ h)))))), List.forall_mem_cons.mpr ⟨fun _ h => List.mem_cons_of_mem _ (List.mem_append_left _ (List.mem_append_left _ (List.mem_append_left _ (List.mem_append_left _ (List.mem_append_left _ (List.mem_append_right _ (List.mem_append_left _ h))))))), List.forall_mem_cons.mpr ⟨fun _ h => List.mem_cons_of_mem _ (List.mem_append_left _ (List.mem_append_left _ (List.mem_append_left _ (List.mem_append_left _ (List.mem_append_left _ (List.mem_append_right _ (List.mem_append_right _ (List.mem_append_left _ h)))))))), List.forall_mem_cons.mpr ⟨fun _ h => List.mem_cons_of_mem _ (List.mem_append_left _ (List.mem_append_left _ (List.mem_append_left _ (List.mem_append_left _ (List.mem_append_left _ (List.mem_append_right _ (List.mem_append_right _ (List.mem_append_right _ (List.mem_append_left _ h))))))))), List.forall_mem_cons.mpr ⟨fun _ h => List.mem_cons_of_mem _ (List.mem_append_left _ (List.mem_append_left _ (List.mem_append_left _ (List.mem_append_left _ (List.mem_append_left _ (List.mem_append_right _ (List.mem_append_right _ (List.mem_append_right _ (List.mem_append_right _ h))))))))), List.forall_mem_cons.mpr ⟨fun _ h => List.mem_cons_of_mem _ (List.mem_append_left _ (List.mem_append_left _ (List.mem_append_left _ (List.mem_append_left _ (List.mem_append_right _ h))))), List.forall_mem_cons.mpr ⟨fun _ h => List.mem_cons_of_mem _ (List.mem_append_left _ (List.mem_append_left _ (List.mem_append_left _ (List.mem_append_right _ h)))), List.forall_mem_cons.mpr ⟨fun _ h => List.mem_cons_of_mem _ (List.mem_append_left _ (List.mem_append_left _ (List.mem_append_right _ h))), List.forall_mem_cons.mpr ⟨fun _ h => List.mem_cons_of_mem _ (List.mem_append_left _ (List.mem_append_right _ h)), List.forall_mem_cons.mpr ⟨fun _ h => List.mem_cons_of_mem _ (List.mem_append_right _ h), fun l h => absurd h List.not_mem_nil⟩⟩⟩⟩⟩⟩⟩⟩⟩⟩⟩
set_option maxRecDepth 20000 in
theorem ggX11_keeperOf_X11_tableAt : GoodIn wsX11_keeperOf wsX11_tableAt := goodIn_r2 csX11_keeperOf ciX11_keeperOf _ [(1, 9), (1, 10), (1, 11), (6, 0), (6, 1), (6, 2), (6, 3), (6, 4), (6, 5), (6, 6), (6, 7), (6, 8), (6, 9), (6, 10), (6, 11), (6, 12)] rfl rfl
set_option maxRecDepth 20000 in
theorem gX11_keeperOf_X11_tableAt : GoodIn wsX11_keeperOf (wsV RX11 192 RX11 yX11_tableAt wsX11_tableAt) := goodIn_app (goodIn_r2 csX11_keeperOf ciX11_keeperOf _ [(1, 5), (1, 6), (1, 7), (1, 8)] rfl rfl) ggX11_keeperOf_X11_tableAt
theorem daX11_keeperOf_R24 : ([(0, .aload_n 0, 1), (1, .iload_n 1, 1), (2, .invokevirtual 192, 3), (5, .astore 4, 2), (7, .aload 4, 2), (9, .ifnull 19, 3), (28, .iconst (-1), 1), (29, .ireturn, 1)] : List (Nat × Instr × Nat)).all (fun x => decide (decode cX11_keeperOf x.1 = .ok x.2)) = true := by decide +kernel
theorem dX11_keeperOf_0 : decode cX11_keeperOf 0 = .ok (.aload_n 0, 1) := dq_at daX11_keeperOf_R24 (i := 0) rfl
theorem dX11_keeperOf_1 : decode cX11_keeperOf 1 = .ok (.iload_n 1, 1) := dq_at daX11_keeperOf_R24 (i := 1) rfl
theorem dX11_keeperOf_2 : decode cX11_keeperOf 2 = .ok (.invokevirtual 192, 3) := dq_at daX11_keeperOf_R24 (i := 2) rfl
theorem dX11_keeperOf_5 : decode cX11_keeperOf 5 = .ok (.astore 4, 2) := dq_at daX11_keeperOf_R24 (i := 3) rfl
theorem dX11_keeperOf_7 : decode cX11_keeperOf 7 = .ok (.aload 4, 2) := dq_at daX11_keeperOf_R24 (i := 4) rfl
theorem dX11_keeperOf_9 : decode cX11_keeperOf 9 = .ok (.ifnull 19, 3) := dq_at daX11_keeperOf_R24 (i := 5) rfl
theorem dX11_keeperOf_28 : decode cX11_keeperOf 28 = .ok (.iconst (-1), 1) := dq_at daX11_keeperOf_R24 (i := 6) rfl
theorem dX11_keeperOf_29 : decode cX11_keeperOf 29 = .ok (.ireturn, 1) := dq_at daX11_keeperOf_R24 (i := 7) rfl
noncomputable def csX11_tooFew : List (List Cond) := [[Cond.code yX11_tooFew cX11_tooFew 5 (some .int)], wsX11_tooFew_r1, wsX11_tooFew_r2, wsX11_tooFew_r3, wsX11_tooFew_r4, wsX11_tooFew_r5, wsX110, wsX40, wsX80, wsX10, wsX20]
set_option maxRecDepth 20000 in
theorem ciX11_tooFew : ∀ l ∈ csX11_tooFew, ∀ w ∈ l, w ∈ wsX11_tooFew := by
  unfold csX11_tooFew
  refine List.forall_mem_cons.mpr ⟨fun _ h => List.mem_cons.mpr (Or.inl (List.mem_singleton.mp h)), List.forall_mem_cons.mpr ⟨fun _ h => List.mem_cons_of_mem _ (List.mem_append_left _ (List.mem_append_left _ (List.mem_append_left _ (List.mem_append_left _ (List.mem_append_left _ (List.mem_append_left _ h)))))), List.forall_mem_cons.mpr ⟨fun _ h => List.mem_cons_of_mem _ (List.mem_append_left _ (List.mem_append_left _ (List.mem_append_left _ (List.mem_append_left _ (List.mem_append_left _ (List.mem_append_right _ (List.mem_append_left _ h))))))), List.forall_mem_cons.mpr ⟨fun _ h => List.mem_cons_of_mem _ (List.mem_append_left _ (List.mem_append_left _ (List.mem_append_left _ (List.mem_append_left _ (List.mem_append_left _ (List.mem_append_right _ (List.mem_append_right _ (List.mem_append_left _ h)))))))), List.forall_mem_cons.mpr ⟨fun _ h => List.mem_cons_of_mem _ (List.mem_append_left _ (List.mem_append_left _ (List.mem_append_left _ (List.mem_append_left _ (List.mem_append_left _ (List.mem_append_right _ (List.mem_append_right _ (List.mem_append_right _ (List.mem_append_left _ h))))))))), List.forall_mem_cons.mpr ⟨fun _ h => List.mem_cons_of_mem _ (List.mem_append_left _ (List.mem_append_left _ (List.mem_append_left _ (List.mem_append_left _ (List.mem_append_left _ (List.mem_append_right _ (List.mem_append_right _ (List.mem_append_right _ (List.mem_append_right _ h))))))))), List.forall_mem_cons.mpr ⟨fun _ h => List.mem_cons_of_mem _ (List.mem_append_left _ (List.mem_append_left _ (List.mem_append_left _ (List.mem_append_left _ (List.mem_append_right _ h))))), List.forall_mem_cons.mpr ⟨fun _ h => List.mem_cons_of_mem _ (List.mem_append_left _ (List.mem_append_left _ (List.mem_append_left _ (List.mem_append_right _ h)))), List.forall_mem_cons.mpr ⟨fun _ h => List.mem_cons_of_mem _ (List.mem_append_left _ (List.mem_append_left _ (List.mem_append_right _ h))), List.forall_mem_cons.mpr ⟨fun _ h => List.mem_cons_of_mem _ (List.mem_append_left _ (List.mem_append_right _ h)), List.forall_mem_cons.mpr ⟨fun _ h => List.mem_cons_of_mem _ (List.mem_append_right _ h), fun l h => absurd h List.not_mem_nil⟩⟩⟩⟩⟩⟩⟩⟩⟩⟩⟩
set_option maxRecDepth 20000 in
theorem ggX11_tooFew_X11_tableAt : GoodIn wsX11_tooFew wsX11_tableAt := goodIn_r2 csX11_tooFew ciX11_tooFew _ [(1, 10), (1, 11), (1, 12), (6, 0), (6, 1), (6, 2), (6, 3), (6, 4), (6, 5), (6, 6), (6, 7), (6, 8), (6, 9), (6, 10), (6, 11), (6, 12)] rfl rfl
set_option maxRecDepth 20000 in
theorem gX11_tooFew_X11_tableAt : GoodIn wsX11_tooFew (wsV RX11 192 RX11 yX11_tableAt wsX11_tableAt) := goodIn_app (goodIn_r2 csX11_tooFew ciX11_tooFew _ [(1, 6), (1, 7), (1, 8), (1, 9)] rfl rfl) ggX11_tooFew_X11_tableAt
theorem daX11_tooFew_R25 : ([(0, .aload_n 0, 1), (1, .iload_n 1, 1), (2, .invokevirtual 192, 3), (5, .astore_n 2, 1), (6, .aload_n 2, 1), (7, .ifnonnull 5, 3), (10, .iconst (-1), 1), (11, .ireturn, 1)] : List (Nat × Instr × Nat)).all (fun x => decide (decode cX11_tooFew x.1 = .ok x.2)) = true := by decide +kernel
theorem dX11_tooFew_0 : decode cX11_tooFew 0 = .ok (.aload_n 0, 1) := dq_at daX11_tooFew_R25 (i := 0) rfl
theorem dX11_tooFew_1 : decode cX11_tooFew 1 = .ok (.iload_n 1, 1) := dq_at daX11_tooFew_R25 (i := 1) rfl
theorem dX11_tooFew_2 : decode cX11_tooFew 2 = .ok (.invokevirtual 192, 3) := dq_at daX11_tooFew_R25 (i := 2) rfl
theorem dX11_tooFew_5 : decode cX11_tooFew 5 = .ok (.astore_n 2, 1) := dq_at daX11_tooFew_R25 (i := 3) rfl
theorem dX11_tooFew_6 : decode cX11_tooFew 6 = .ok (.aload_n 2, 1) := dq_at daX11_tooFew_R25 (i := 4) rfl
theorem dX11_tooFew_7 : decode cX11_tooFew 7 = .ok (.ifnonnull 5, 3) := dq_at daX11_tooFew_R25 (i := 5) rfl
theorem dX11_tooFew_10 : decode cX11_tooFew 10 = .ok (.iconst (-1), 1) := dq_at daX11_tooFew_R25 (i := 6) rfl
theorem dX11_tooFew_11 : decode cX11_tooFew 11 = .ok (.ireturn, 1) := dq_at daX11_tooFew_R25 (i := 7) rfl
noncomputable def csX11_share : List (List Cond) := [[Cond.code yX11_share cX11_share 7 (some .int)], wsX11_share_r1, wsX11_share_r2, wsX11_share_r3, wsX110, wsX80, wsX40, wsX20]
set_option maxRecDepth 20000 in
theorem ciX11_share : ∀ l ∈ csX11_share, ∀ w ∈ l, w ∈ wsX11_share := by
  unfold csX11_share
  refine List.forall_mem_cons.mpr ⟨fun _ h => List.mem_cons.mpr (Or.inl (List.mem_singleton.mp h)), List.forall_mem_cons.mpr ⟨fun _ h => List.mem_cons_of_mem _ (List.mem_append_left _ (List.mem_append_left _ (List.mem_append_left _ (List.mem_append_left _ (List.mem_append_left _ h))))), List.forall_mem_cons.mpr ⟨fun _ h => List.mem_cons_of_mem _ (List.mem_append_left _ (List.mem_append_left _ (List.mem_append_left _ (List.mem_append_left _ (List.mem_append_right _ (List.mem_append_left _ h)))))), List.forall_mem_cons.mpr ⟨fun _ h => List.mem_cons_of_mem _ (List.mem_append_left _ (List.mem_append_left _ (List.mem_append_left _ (List.mem_append_left _ (List.mem_append_right _ (List.mem_append_right _ h)))))), List.forall_mem_cons.mpr ⟨fun _ h => List.mem_cons_of_mem _ (List.mem_append_left _ (List.mem_append_left _ (List.mem_append_left _ (List.mem_append_right _ h)))), List.forall_mem_cons.mpr ⟨fun _ h => List.mem_cons_of_mem _ (List.mem_append_left _ (List.mem_append_left _ (List.mem_append_right _ h))), List.forall_mem_cons.mpr ⟨fun _ h => List.mem_cons_of_mem _ (List.mem_append_left _ (List.mem_append_right _ h)), List.forall_mem_cons.mpr ⟨fun _ h => List.mem_cons_of_mem _ (List.mem_append_right _ h), fun l h => absurd h List.not_mem_nil⟩⟩⟩⟩⟩⟩⟩⟩
set_option maxRecDepth 20000 in
theorem ggX11_share_X11_tableAt : GoodIn wsX11_share wsX11_tableAt := goodIn_r2 csX11_share ciX11_share _ [(1, 9), (1, 10), (1, 11), (4, 0), (4, 1), (4, 2), (4, 3), (4, 4), (4, 5), (4, 6), (4, 7), (4, 8), (4, 9), (4, 10), (4, 11), (4, 12)] rfl rfl
set_option maxRecDepth 20000 in
theorem gX11_share_X11_tableAt : GoodIn wsX11_share (wsV RX11 192 RX11 yX11_tableAt wsX11_tableAt) := goodIn_app (goodIn_r2 csX11_share ciX11_share _ [(1, 5), (1, 6), (1, 7), (1, 8)] rfl rfl) ggX11_share_X11_tableAt
theorem daX11_share_R26 : ([(0, .aload_n 0, 1), (1, .iload_n 1, 1), (2, .invokevirtual 192, 3), (5, .astore 4, 2), (7, .aload 4, 2), (9, .ifnull 23, 3), (32, .iconst (-1), 1), (33, .ireturn, 1)] : List (Nat × Instr × Nat)).all (fun x => decide (decode cX11_share x.1 = .ok x.2)) = true := by decide +kernel
theorem dX11_share_0 : decode cX11_share 0 = .ok (.aload_n 0, 1) := dq_at daX11_share_R26 (i := 0) rfl
theorem dX11_share_1 : decode cX11_share 1 = .ok (.iload_n 1, 1) := dq_at daX11_share_R26 (i := 1) rfl
theorem dX11_share_2 : decode cX11_share 2 = .ok (.invokevirtual 192, 3) := dq_at daX11_share_R26 (i := 2) rfl
theorem dX11_share_5 : decode cX11_share 5 = .ok (.astore 4, 2) := dq_at daX11_share_R26 (i := 3) rfl
theorem dX11_share_7 : decode cX11_share 7 = .ok (.aload 4, 2) := dq_at daX11_share_R26 (i := 4) rfl
theorem dX11_share_9 : decode cX11_share 9 = .ok (.ifnull 23, 3) := dq_at daX11_share_R26 (i := 5) rfl
theorem dX11_share_32 : decode cX11_share 32 = .ok (.iconst (-1), 1) := dq_at daX11_share_R26 (i := 6) rfl
theorem dX11_share_33 : decode cX11_share 33 = .ok (.ireturn, 1) := dq_at daX11_share_R26 (i := 7) rfl
noncomputable def csX11_moves : List (List Cond) := [[Cond.code yX11_moves cX11_moves 11 (some .int)], wsX11_moves_r1, wsX11_moves_r2, wsX11_moves_r3, wsX11_moves_r4, wsX11_moves_r5, wsX110, wsX40, wsX80, wsX10, wsX20]
set_option maxRecDepth 20000 in
theorem ciX11_moves : ∀ l ∈ csX11_moves, ∀ w ∈ l, w ∈ wsX11_moves := by
  unfold csX11_moves
  refine List.forall_mem_cons.mpr ⟨fun _ h => List.mem_cons.mpr (Or.inl (List.mem_singleton.mp h)), List.forall_mem_cons.mpr ⟨fun _ h => List.mem_cons_of_mem _ (List.mem_append_left _ (List.mem_append_left _ (List.mem_append_left _ (List.mem_append_left _ (List.mem_append_left _ (List.mem_append_left _ h)))))), List.forall_mem_cons.mpr ⟨fun _ h => List.mem_cons_of_mem _ (List.mem_append_left _ (List.mem_append_left _ (List.mem_append_left _ (List.mem_append_left _ (List.mem_append_left _ (List.mem_append_right _ (List.mem_append_left _ h))))))), List.forall_mem_cons.mpr ⟨fun _ h => List.mem_cons_of_mem _ (List.mem_append_left _ (List.mem_append_left _ (List.mem_append_left _ (List.mem_append_left _ (List.mem_append_left _ (List.mem_append_right _ (List.mem_append_right _ (List.mem_append_left _ h)))))))), List.forall_mem_cons.mpr ⟨fun _ h => List.mem_cons_of_mem _ (List.mem_append_left _ (List.mem_append_left _ (List.mem_append_left _ (List.mem_append_left _ (List.mem_append_left _ (List.mem_append_right _ (List.mem_append_right _ (List.mem_append_right _ (List.mem_append_left _ h))))))))), List.forall_mem_cons.mpr ⟨fun _ h => List.mem_cons_of_mem _ (List.mem_append_left _ (List.mem_append_left _ (List.mem_append_left _ (List.mem_append_left _ (List.mem_append_left _ (List.mem_append_right _ (List.mem_append_right _ (List.mem_append_right _ (List.mem_append_right _ h))))))))), List.forall_mem_cons.mpr ⟨fun _ h => List.mem_cons_of_mem _ (List.mem_append_left _ (List.mem_append_left _ (List.mem_append_left _ (List.mem_append_left _ (List.mem_append_right _ h))))), List.forall_mem_cons.mpr ⟨fun _ h => List.mem_cons_of_mem _ (List.mem_append_left _ (List.mem_append_left _ (List.mem_append_left _ (List.mem_append_right _ h)))), List.forall_mem_cons.mpr ⟨fun _ h => List.mem_cons_of_mem _ (List.mem_append_left _ (List.mem_append_left _ (List.mem_append_right _ h))), List.forall_mem_cons.mpr ⟨fun _ h => List.mem_cons_of_mem _ (List.mem_append_left _ (List.mem_append_right _ h)), List.forall_mem_cons.mpr ⟨fun _ h => List.mem_cons_of_mem _ (List.mem_append_right _ h), fun l h => absurd h List.not_mem_nil⟩⟩⟩⟩⟩⟩⟩⟩⟩⟩⟩
set_option maxRecDepth 20000 in
theorem ggX11_moves_X11_tableAt : GoodIn wsX11_moves wsX11_tableAt := goodIn_r2 csX11_moves ciX11_moves _ [(1, 9), (1, 10), (1, 11), (6, 0), (6, 1), (6, 2), (6, 3), (6, 4), (6, 5), (6, 6), (6, 7), (6, 8), (6, 9), (6, 10), (6, 11), (6, 12)] rfl rfl
set_option maxRecDepth 20000 in
theorem gX11_moves_X11_tableAt : GoodIn wsX11_moves (wsV RX11 192 RX11 yX11_tableAt wsX11_tableAt) := goodIn_app (goodIn_r2 csX11_moves ciX11_moves _ [(1, 5), (1, 6), (1, 7), (1, 8)] rfl rfl) ggX11_moves_X11_tableAt
theorem daX11_moves_R27 : ([(0, .aload_n 0, 1), (1, .iload_n 1, 1), (2, .invokevirtual 192, 3), (5, .astore 4, 2), (7, .aload_n 0, 1), (8, .iload_n 2, 1), (9, .invokevirtual 192, 3), (12, .astore 5, 2), (14, .aload 4, 2), (16, .ifnull 17, 3), (33, .iconst (-1), 1), (34, .ireturn, 1)] : List (Nat × Instr × Nat)).all (fun x => decide (decode cX11_moves x.1 = .ok x.2)) = true := by decide +kernel
theorem dX11_moves_0 : decode cX11_moves 0 = .ok (.aload_n 0, 1) := dq_at daX11_moves_R27 (i := 0) rfl
theorem dX11_moves_1 : decode cX11_moves 1 = .ok (.iload_n 1, 1) := dq_at daX11_moves_R27 (i := 1) rfl
theorem dX11_moves_2 : decode cX11_moves 2 = .ok (.invokevirtual 192, 3) := dq_at daX11_moves_R27 (i := 2) rfl
theorem dX11_moves_5 : decode cX11_moves 5 = .ok (.astore 4, 2) := dq_at daX11_moves_R27 (i := 3) rfl
theorem dX11_moves_7 : decode cX11_moves 7 = .ok (.aload_n 0, 1) := dq_at daX11_moves_R27 (i := 4) rfl
theorem dX11_moves_8 : decode cX11_moves 8 = .ok (.iload_n 2, 1) := dq_at daX11_moves_R27 (i := 5) rfl
theorem dX11_moves_9 : decode cX11_moves 9 = .ok (.invokevirtual 192, 3) := dq_at daX11_moves_R27 (i := 6) rfl
theorem dX11_moves_12 : decode cX11_moves 12 = .ok (.astore 5, 2) := dq_at daX11_moves_R27 (i := 7) rfl
theorem dX11_moves_14 : decode cX11_moves 14 = .ok (.aload 4, 2) := dq_at daX11_moves_R27 (i := 8) rfl
theorem dX11_moves_16 : decode cX11_moves 16 = .ok (.ifnull 17, 3) := dq_at daX11_moves_R27 (i := 9) rfl
theorem dX11_moves_33 : decode cX11_moves 33 = .ok (.iconst (-1), 1) := dq_at daX11_moves_R27 (i := 10) rfl
theorem dX11_moves_34 : decode cX11_moves 34 = .ok (.ireturn, 1) := dq_at daX11_moves_R27 (i := 11) rfl
theorem daX11_tableAt_R28 : ([(0, .iload_n 1, 1), (1, .ifCond .lt 20, 3), (4, .iload_n 1, 1), (5, .aload_n 0, 1), (6, .getfield 52, 3), (9, .if_icmp .ge 12, 3), (21, .aconst_null, 1), (22, .areturn, 1)] : List (Nat × Instr × Nat)).all (fun x => decide (decode cX11_tableAt x.1 = .ok x.2)) = true := by decide +kernel
theorem dX11_tableAt_0 : decode cX11_tableAt 0 = .ok (.iload_n 1, 1) := dq_at daX11_tableAt_R28 (i := 0) rfl
theorem dX11_tableAt_1 : decode cX11_tableAt 1 = .ok (.ifCond .lt 20, 3) := dq_at daX11_tableAt_R28 (i := 1) rfl
theorem dX11_tableAt_4 : decode cX11_tableAt 4 = .ok (.iload_n 1, 1) := dq_at daX11_tableAt_R28 (i := 2) rfl
theorem dX11_tableAt_5 : decode cX11_tableAt 5 = .ok (.aload_n 0, 1) := dq_at daX11_tableAt_R28 (i := 3) rfl
theorem dX11_tableAt_6 : decode cX11_tableAt 6 = .ok (.getfield 52, 3) := dq_at daX11_tableAt_R28 (i := 4) rfl
theorem dX11_tableAt_9 : decode cX11_tableAt 9 = .ok (.if_icmp .ge 12, 3) := dq_at daX11_tableAt_R28 (i := 5) rfl
theorem dX11_tableAt_21 : decode cX11_tableAt 21 = .ok (.aconst_null, 1) := dq_at daX11_tableAt_R28 (i := 6) rfl
theorem dX11_tableAt_22 : decode cX11_tableAt 22 = .ok (.areturn, 1) := dq_at daX11_tableAt_R28 (i := 7) rfl
theorem daX11_isPlace_R29 : ([(0, .iload_n 0, 1), (1, .ifCond .lt 14, 3), (4, .iload_n 0, 1), (5, .sipush 1000, 3), (8, .if_icmp .ge 7, 3), (11, .iconst 1, 1), (12, .goto 4, 3), (15, .iconst 0, 1), (16, .ireturn, 1)] : List (Nat × Instr × Nat)).all (fun x => decide (decode cX11_isPlace x.1 = .ok x.2)) = true := by decide +kernel
theorem dX11_isPlace_0 : decode cX11_isPlace 0 = .ok (.iload_n 0, 1) := dq_at daX11_isPlace_R29 (i := 0) rfl
theorem dX11_isPlace_1 : decode cX11_isPlace 1 = .ok (.ifCond .lt 14, 3) := dq_at daX11_isPlace_R29 (i := 1) rfl
theorem dX11_isPlace_4 : decode cX11_isPlace 4 = .ok (.iload_n 0, 1) := dq_at daX11_isPlace_R29 (i := 2) rfl
theorem dX11_isPlace_5 : decode cX11_isPlace 5 = .ok (.sipush 1000, 3) := dq_at daX11_isPlace_R29 (i := 3) rfl
theorem dX11_isPlace_8 : decode cX11_isPlace 8 = .ok (.if_icmp .ge 7, 3) := dq_at daX11_isPlace_R29 (i := 4) rfl
theorem dX11_isPlace_11 : decode cX11_isPlace 11 = .ok (.iconst 1, 1) := dq_at daX11_isPlace_R29 (i := 5) rfl
theorem dX11_isPlace_12 : decode cX11_isPlace 12 = .ok (.goto 4, 3) := dq_at daX11_isPlace_R29 (i := 6) rfl
theorem dX11_isPlace_15 : decode cX11_isPlace 15 = .ok (.iconst 0, 1) := dq_at daX11_isPlace_R29 (i := 7) rfl
theorem dX11_isPlace_16 : decode cX11_isPlace 16 = .ok (.ireturn, 1) := dq_at daX11_isPlace_R29 (i := 8) rfl
noncomputable def csX11_knows : List (List Cond) := [[Cond.code yX11_knows cX11_knows 4 (some .int)], [Cond.fieldLink RX11 26 "SeatsRound" "keepers" "LSeatsRound$Keepers;", Cond.fieldLink RX11 52 "SeatsRound" "tableCount" "I", Cond.constant RX11 152 (-2000000000), Cond.fieldLink RX11 160 "SeatsRound$Keepers" "table" "[I", Cond.methodLink RX11 137 yX2_has, Cond.instanceMethod yX2_has, Cond.selects RX2 yX2_has yX2_has, Cond.initialized RX2, Cond.code yX2_has cX2_has 2 (some .boolean), Cond.fieldLink RX2 28 "SeatsRound$Keepers" "count" "I"], wsX110, wsX20]
set_option maxRecDepth 20000 in
theorem ciX11_knows : ∀ l ∈ csX11_knows, ∀ w ∈ l, w ∈ wsX11_knows := by
  unfold csX11_knows
  refine List.forall_mem_cons.mpr ⟨fun _ h => List.mem_cons.mpr (Or.inl (List.mem_singleton.mp h)), List.forall_mem_cons.mpr ⟨fun _ h => List.mem_cons_of_mem _ (List.mem_append_left _ (List.mem_append_left _ h)), List.forall_mem_cons.mpr ⟨fun _ h => List.mem_cons_of_mem _ (List.mem_append_left _ (List.mem_append_right _ h)), List.forall_mem_cons.mpr ⟨fun _ h => List.mem_cons_of_mem _ (List.mem_append_right _ h), fun l h => absurd h List.not_mem_nil⟩⟩⟩⟩
set_option maxRecDepth 20000 in
theorem ggX11_knows_X2_has : GoodIn wsX11_knows wsX2_has := goodIn_r2 csX11_knows ciX11_knows _ [(1, 8), (1, 9), (3, 0), (3, 1), (3, 2), (3, 3), (3, 4), (3, 5)] rfl rfl
set_option maxRecDepth 20000 in
theorem gX11_knows_X2_has : GoodIn wsX11_knows (wsV RX11 137 RX2 yX2_has wsX2_has) := goodIn_app (goodIn_r2 csX11_knows ciX11_knows _ [(1, 4), (1, 5), (1, 6), (1, 7)] rfl rfl) ggX11_knows_X2_has
theorem daX11_knows_R30 : ([(0, .aload_n 0, 1), (1, .getfield 26, 3), (4, .iload_n 1, 1), (5, .invokevirtual 137, 3), (8, .ifCond .eq 16, 3), (24, .ldc 152, 2), (26, .ireturn, 1)] : List (Nat × Instr × Nat)).all (fun x => decide (decode cX11_knows x.1 = .ok x.2)) = true := by decide +kernel
theorem dX11_knows_0 : decode cX11_knows 0 = .ok (.aload_n 0, 1) := dq_at daX11_knows_R30 (i := 0) rfl
theorem dX11_knows_1 : decode cX11_knows 1 = .ok (.getfield 26, 3) := dq_at daX11_knows_R30 (i := 1) rfl
theorem dX11_knows_4 : decode cX11_knows 4 = .ok (.iload_n 1, 1) := dq_at daX11_knows_R30 (i := 2) rfl
theorem dX11_knows_5 : decode cX11_knows 5 = .ok (.invokevirtual 137, 3) := dq_at daX11_knows_R30 (i := 3) rfl
theorem dX11_knows_8 : decode cX11_knows 8 = .ok (.ifCond .eq 16, 3) := dq_at daX11_knows_R30 (i := 4) rfl
theorem dX11_knows_24 : decode cX11_knows 24 = .ok (.ldc 152, 2) := dq_at daX11_knows_R30 (i := 5) rfl
theorem dX11_knows_26 : decode cX11_knows 26 = .ok (.ireturn, 1) := dq_at daX11_knows_R30 (i := 6) rfl
noncomputable def csX11_write : List (List Cond) := [[Cond.code yX11_write cX11_write 4 (some .int)], wsX11_write_r1, wsX11_write_r2, wsX11_write_r3, wsX11_write_r4, wsX11_write_r5, wsX11_write_r6, wsX11_write_r7, wsX110, wsX20, wsX40, wsX60, wsX80, wsX10]
set_option maxRecDepth 20000 in
theorem ciX11_write : ∀ l ∈ csX11_write, ∀ w ∈ l, w ∈ wsX11_write := by
  unfold csX11_write
  refine List.forall_mem_cons.mpr ⟨fun _ h => List.mem_cons.mpr (Or.inl (List.mem_singleton.mp h)), List.forall_mem_cons.mpr ⟨fun _ h => List.mem_cons_of_mem _ (List.mem_append_left _ (List.mem_append_left _ (List.mem_append_left _ (List.mem_append_left _ (List.mem_append_left _ (List.mem_append_left _ (List.mem_append_left _ h))))))), List.forall_mem_cons.mpr ⟨fun _ h => List.mem_cons_of_mem _ (List.mem_append_left _ (List.mem_append_left _ (List.mem_append_left _ (List.mem_append_left _ (List.mem_append_left _ (List.mem_append_left _ (List.mem_append_right _ (List.mem_append_left _ h)))))))), List.forall_mem_cons.mpr ⟨fun _ h => List.mem_cons_of_mem _ (List.mem_append_left _ (List.mem_append_left _ (List.mem_append_left _ (List.mem_append_left _ (List.mem_append_left _ (List.mem_append_left _ (List.mem_append_right _ (List.mem_append_right _ (List.mem_append_left _ h))))))))), List.forall_mem_cons.mpr ⟨fun _ h => List.mem_cons_of_mem _ (List.mem_append_left _ (List.mem_append_left _ (List.mem_append_left _ (List.mem_append_left _ (List.mem_append_left _ (List.mem_append_left _ (List.mem_append_right _ (List.mem_append_right _ (List.mem_append_right _ (List.mem_append_left _ h)))))))))), List.forall_mem_cons.mpr ⟨fun _ h => List.mem_cons_of_mem _ (List.mem_append_left _ (List.mem_append_left _ (List.mem_append_left _ (List.mem_append_left _ (List.mem_append_left _ (List.mem_append_left _ (List.mem_append_right _ (List.mem_append_right _ (List.mem_append_right _ (List.mem_append_right _ (List.mem_append_left _ h))))))))))), List.forall_mem_cons.mpr ⟨fun _ h => List.mem_cons_of_mem _ (List.mem_append_left _ (List.mem_append_left _ (List.mem_append_left _ (List.mem_append_left _ (List.mem_append_left _ (List.mem_append_left _ (List.mem_append_right _ (List.mem_append_right _ (List.mem_append_right _ (List.mem_append_right _ (List.mem_append_right _ (List.mem_append_left _ h)))))))))))), List.forall_mem_cons.mpr ⟨fun _ h => List.mem_cons_of_mem _ (List.mem_append_left _ (List.mem_append_left _ (List.mem_append_left _ (List.mem_append_left _ (List.mem_append_left _ (List.mem_append_left _ (List.mem_append_right _ (List.mem_append_right _ (List.mem_append_right _ (List.mem_append_right _ (List.mem_append_right _ (List.mem_append_right _ h)))))))))))), List.forall_mem_cons.mpr ⟨fun _ h => List.mem_cons_of_mem _ (List.mem_append_left _ (List.mem_append_left _ (List.mem_append_left _ (List.mem_append_left _ (List.mem_append_left _ (List.mem_append_right _ h)))))), List.forall_mem_cons.mpr ⟨fun _ h => List.mem_cons_of_mem _ (List.mem_append_left _ (List.mem_append_left _ (List.mem_append_left _ (List.mem_append_left _ (List.mem_append_right _ h))))), List.forall_mem_cons.mpr ⟨fun _ h => List.mem_cons_of_mem _ (List.mem_append_left _ (List.mem_append_left _ (List.mem_append_left _ (List.mem_append_right _ h)))), List.forall_mem_cons.mpr ⟨fun _ h => List.mem_cons_of_mem _ (List.mem_append_left _ (List.mem_append_left _ (List.mem_append_right _ h))), List.forall_mem_cons.mpr ⟨fun _ h => List.mem_cons_of_mem _ (List.mem_append_left _ (List.mem_append_right _ h)), List.forall_mem_cons.mpr ⟨fun _ h => List.mem_cons_of_mem _ (List.mem_append_right _ h), fun l h => absurd h List.not_mem_nil⟩⟩⟩⟩⟩⟩⟩⟩⟩⟩⟩⟩⟩⟩
set_option maxRecDepth 20000 in
theorem ggX11_write_X2_has : GoodIn wsX11_write wsX2_has := goodIn_r2 csX11_write ciX11_write _ [(1, 8), (1, 9), (9, 0), (9, 1), (9, 2), (9, 3), (9, 4), (9, 5)] rfl rfl
set_option maxRecDepth 20000 in
theorem gX11_write_X2_has : GoodIn wsX11_write (wsV RX11 137 RX2 yX2_has wsX2_has) := goodIn_app (goodIn_r2 csX11_write ciX11_write _ [(1, 4), (1, 5), (1, 6), (1, 7)] rfl rfl) ggX11_write_X2_has
theorem daX11_write_R31 : ([(0, .aload_n 0, 1), (1, .getfield 26, 3), (4, .iload_n 1, 1), (5, .invokevirtual 137, 3), (8, .ifCond .eq 14, 3), (22, .iconst (-1), 1), (23, .ireturn, 1)] : List (Nat × Instr × Nat)).all (fun x => decide (decode cX11_write x.1 = .ok x.2)) = true := by decide +kernel
theorem dX11_write_0 : decode cX11_write 0 = .ok (.aload_n 0, 1) := dq_at daX11_write_R31 (i := 0) rfl
theorem dX11_write_1 : decode cX11_write 1 = .ok (.getfield 26, 3) := dq_at daX11_write_R31 (i := 1) rfl
theorem dX11_write_4 : decode cX11_write 4 = .ok (.iload_n 1, 1) := dq_at daX11_write_R31 (i := 2) rfl
theorem dX11_write_5 : decode cX11_write 5 = .ok (.invokevirtual 137, 3) := dq_at daX11_write_R31 (i := 3) rfl
theorem dX11_write_8 : decode cX11_write 8 = .ok (.ifCond .eq 14, 3) := dq_at daX11_write_R31 (i := 4) rfl
theorem dX11_write_22 : decode cX11_write 22 = .ok (.iconst (-1), 1) := dq_at daX11_write_R31 (i := 5) rfl
theorem dX11_write_23 : decode cX11_write 23 = .ok (.ireturn, 1) := dq_at daX11_write_R31 (i := 6) rfl
noncomputable def csX11_read : List (List Cond) := [[Cond.code yX11_read cX11_read 4 (some .int)], wsX11_read_r1, wsX11_read_r2, wsX11_read_r3, wsX11_read_r4, wsX11_read_r5, wsX11_read_r6, wsX110, wsX20, wsX40, wsX60, wsX80, wsX10]
set_option maxRecDepth 20000 in
theorem ciX11_read : ∀ l ∈ csX11_read, ∀ w ∈ l, w ∈ wsX11_read := by
  unfold csX11_read
  refine List.forall_mem_cons.mpr ⟨fun _ h => List.mem_cons.mpr (Or.inl (List.mem_singleton.mp h)), List.forall_mem_cons.mpr ⟨fun _ h => List.mem_cons_of_mem _ (List.mem_append_left _ (List.mem_append_left _ (List.mem_append_left _ (List.mem_append_left _ (List.mem_append_left _ (List.mem_append_left _ (List.mem_append_left _ h))))))), List.forall_mem_cons.mpr ⟨fun _ h => List.mem_cons_of_mem _ (List.mem_append_left _ (List.mem_append_left _ (List.mem_append_left _ (List.mem_append_left _ (List.mem_append_left _ (List.mem_append_left _ (List.mem_append_right _ (List.mem_append_left _ h)))))))), List.forall_mem_cons.mpr ⟨fun _ h => List.mem_cons_of_mem _ (List.mem_append_left _ (List.mem_append_left _ (List.mem_append_left _ (List.mem_append_left _ (List.mem_append_left _ (List.mem_append_left _ (List.mem_append_right _ (List.mem_append_right _ (List.mem_append_left _ h))))))))), List.forall_mem_cons.mpr ⟨fun _ h => List.mem_cons_of_mem _ (List.mem_append_left _ (List.mem_append_left _ (List.mem_append_left _ (List.mem_append_left _ (List.mem_append_left _ (List.mem_append_left _ (List.mem_append_right _ (List.mem_append_right _ (List.mem_append_right _ (List.mem_append_left _ h)))))))))), List.forall_mem_cons.mpr ⟨fun _ h => List.mem_cons_of_mem _ (List.mem_append_left _ (List.mem_append_left _ (List.mem_append_left _ (List.mem_append_left _ (List.mem_append_left _ (List.mem_append_left _ (List.mem_append_right _ (List.mem_append_right _ (List.mem_append_right _ (List.mem_append_right _ (List.mem_append_left _ h))))))))))), List.forall_mem_cons.mpr ⟨fun _ h => List.mem_cons_of_mem _ (List.mem_append_left _ (List.mem_append_left _ (List.mem_append_left _ (List.mem_append_left _ (List.mem_append_left _ (List.mem_append_left _ (List.mem_append_right _ (List.mem_append_right _ (List.mem_append_right _ (List.mem_append_right _ (List.mem_append_right _ h))))))))))), List.forall_mem_cons.mpr ⟨fun _ h => List.mem_cons_of_mem _ (List.mem_append_left _ (List.mem_append_left _ (List.mem_append_left _ (List.mem_append_left _ (List.mem_append_left _ (List.mem_append_right _ h)))))), List.forall_mem_cons.mpr ⟨fun _ h => List.mem_cons_of_mem _ (List.mem_append_left _ (List.mem_append_left _ (List.mem_append_left _ (List.mem_append_left _ (List.mem_append_right _ h))))), List.forall_mem_cons.mpr ⟨fun _ h => List.mem_cons_of_mem _ (List.mem_append_left _ (List.mem_append_left _ (List.mem_append_left _ (List.mem_append_right _ h)))), List.forall_mem_cons.mpr ⟨fun _ h => List.mem_cons_of_mem _ (List.mem_append_left _ (List.mem_append_left _ (List.mem_append_right _ h))), List.forall_mem_cons.mpr ⟨fun _ h => List.mem_cons_of_mem _ (List.mem_append_left _ (List.mem_append_right _ h)), List.forall_mem_cons.mpr ⟨fun _ h => List.mem_cons_of_mem _ (List.mem_append_right _ h), fun l h => absurd h List.not_mem_nil⟩⟩⟩⟩⟩⟩⟩⟩⟩⟩⟩⟩⟩
set_option maxRecDepth 20000 in
theorem ggX11_read_X2_has : GoodIn wsX11_read wsX2_has := goodIn_r2 csX11_read ciX11_read _ [(1, 8), (1, 9), (8, 0), (8, 1), (8, 2), (8, 3), (8, 4), (8, 5)] rfl rfl
set_option maxRecDepth 20000 in
theorem gX11_read_X2_has : GoodIn wsX11_read (wsV RX11 137 RX2 yX2_has wsX2_has) := goodIn_app (goodIn_r2 csX11_read ciX11_read _ [(1, 4), (1, 5), (1, 6), (1, 7)] rfl rfl) ggX11_read_X2_has
theorem daX11_read_R32 : ([(0, .aload_n 0, 1), (1, .getfield 26, 3), (4, .iload_n 1, 1), (5, .invokevirtual 137, 3), (8, .ifCond .eq 14, 3), (22, .iconst (-1), 1), (23, .ireturn, 1)] : List (Nat × Instr × Nat)).all (fun x => decide (decode cX11_read x.1 = .ok x.2)) = true := by decide +kernel
theorem dX11_read_0 : decode cX11_read 0 = .ok (.aload_n 0, 1) := dq_at daX11_read_R32 (i := 0) rfl
theorem dX11_read_1 : decode cX11_read 1 = .ok (.getfield 26, 3) := dq_at daX11_read_R32 (i := 1) rfl
theorem dX11_read_4 : decode cX11_read 4 = .ok (.iload_n 1, 1) := dq_at daX11_read_R32 (i := 2) rfl
theorem dX11_read_5 : decode cX11_read 5 = .ok (.invokevirtual 137, 3) := dq_at daX11_read_R32 (i := 3) rfl
theorem dX11_read_8 : decode cX11_read 8 = .ok (.ifCond .eq 14, 3) := dq_at daX11_read_R32 (i := 4) rfl
theorem dX11_read_22 : decode cX11_read 22 = .ok (.iconst (-1), 1) := dq_at daX11_read_R32 (i := 5) rfl
theorem dX11_read_23 : decode cX11_read 23 = .ok (.ireturn, 1) := dq_at daX11_read_R32 (i := 6) rfl
noncomputable def csX11_onShelf : List (List Cond) := [[Cond.code yX11_onShelf cX11_onShelf 4 (some .int)], [Cond.fieldLink RX11 26 "SeatsRound" "keepers" "LSeatsRound$Keepers;", Cond.fieldLink RX11 19 "SeatsRound" "nameList" "LSeatsRound$NameList;", Cond.fieldLink RX11 66 "SeatsRound" "parcels" "LSeatsRound$Parcels;", Cond.fieldLink RX11 277 "SeatsRound$Parcels" "version" "[[I", Cond.fieldLink RX11 281 "SeatsRound$Parcels" "kept" "[[I", Cond.fieldLink RX11 284 "SeatsRound$Parcels" "keptFor" "[[I", Cond.fieldLink RX11 287 "SeatsRound$Parcels" "pieces" "[[I", Cond.methodLink RX11 137 yX2_has, Cond.instanceMethod yX2_has, Cond.selects RX2 yX2_has yX2_has, Cond.initialized RX2, Cond.code yX2_has cX2_has 2 (some .boolean), Cond.fieldLink RX2 28 "SeatsRound$Keepers" "count" "I", Cond.methodLink RX11 123 yX4_has, Cond.instanceMethod yX4_has, Cond.selects RX4 yX4_has yX4_has, Cond.initialized RX4, Cond.code yX4_has cX4_has 2 (some .boolean), Cond.fieldLink RX4 24 "SeatsRound$NameList" "count" "I"], wsX110, wsX60, wsX20, wsX40]
set_option maxRecDepth 20000 in
theorem ciX11_onShelf : ∀ l ∈ csX11_onShelf, ∀ w ∈ l, w ∈ wsX11_onShelf := by
  unfold csX11_onShelf
  refine List.forall_mem_cons.mpr ⟨fun _ h => List.mem_cons.mpr (Or.inl (List.mem_singleton.mp h)), List.forall_mem_cons.mpr ⟨fun _ h => List.mem_cons_of_mem _ (List.mem_append_left _ (List.mem_append_left _ (List.mem_append_left _ (List.mem_append_left _ h)))), List.forall_mem_cons.mpr ⟨fun _ h => List.mem_cons_of_mem _ (List.mem_append_left _ (List.mem_append_left _ (List.mem_append_left _ (List.mem_append_right _ h)))), List.forall_mem_cons.mpr ⟨fun _ h => List.mem_cons_of_mem _ (List.mem_append_left _ (List.mem_append_left _ (List.mem_append_right _ h))), List.forall_mem_cons.mpr ⟨fun _ h => List.mem_cons_of_mem _ (List.mem_append_left _ (List.mem_append_right _ h)), List.forall_mem_cons.mpr ⟨fun _ h => List.mem_cons_of_mem _ (List.mem_append_right _ h), fun l h => absurd h List.not_mem_nil⟩⟩⟩⟩⟩⟩
set_option maxRecDepth 20000 in
theorem ggX11_onShelf_X2_has : GoodIn wsX11_onShelf wsX2_has := goodIn_r2 csX11_onShelf ciX11_onShelf _ [(1, 11), (1, 12), (4, 0), (4, 1), (4, 2), (4, 3), (4, 4), (4, 5)] rfl rfl
set_option maxRecDepth 20000 in
theorem gX11_onShelf_X2_has : GoodIn wsX11_onShelf (wsV RX11 137 RX2 yX2_has wsX2_has) := goodIn_app (goodIn_r2 csX11_onShelf ciX11_onShelf _ [(1, 7), (1, 8), (1, 9), (1, 10)] rfl rfl) ggX11_onShelf_X2_has
theorem daX11_onShelf_R33 : ([(0, .aload_n 0, 1), (1, .getfield 26, 3), (4, .iload_n 1, 1), (5, .invokevirtual 137, 3), (8, .ifCond .eq 14, 3), (22, .iconst (-1), 1), (23, .ireturn, 1)] : List (Nat × Instr × Nat)).all (fun x => decide (decode cX11_onShelf x.1 = .ok x.2)) = true := by decide +kernel
theorem dX11_onShelf_0 : decode cX11_onShelf 0 = .ok (.aload_n 0, 1) := dq_at daX11_onShelf_R33 (i := 0) rfl
theorem dX11_onShelf_1 : decode cX11_onShelf 1 = .ok (.getfield 26, 3) := dq_at daX11_onShelf_R33 (i := 1) rfl
theorem dX11_onShelf_4 : decode cX11_onShelf 4 = .ok (.iload_n 1, 1) := dq_at daX11_onShelf_R33 (i := 2) rfl
theorem dX11_onShelf_5 : decode cX11_onShelf 5 = .ok (.invokevirtual 137, 3) := dq_at daX11_onShelf_R33 (i := 3) rfl
theorem dX11_onShelf_8 : decode cX11_onShelf 8 = .ok (.ifCond .eq 14, 3) := dq_at daX11_onShelf_R33 (i := 4) rfl
theorem dX11_onShelf_22 : decode cX11_onShelf 22 = .ok (.iconst (-1), 1) := dq_at daX11_onShelf_R33 (i := 5) rfl
theorem dX11_onShelf_23 : decode cX11_onShelf 23 = .ok (.ireturn, 1) := dq_at daX11_onShelf_R33 (i := 6) rfl
noncomputable def csX11_fall : List (List Cond) := [[Cond.code yX11_fall cX11_fall 4 (some .int)], [Cond.fieldLink RX11 26 "SeatsRound" "keepers" "LSeatsRound$Keepers;", Cond.fieldLink RX11 169 "SeatsRound$Keepers" "fallen" "[Z", Cond.fieldLink RX11 66 "SeatsRound" "parcels" "LSeatsRound$Parcels;", Cond.methodLink RX11 137 yX2_has, Cond.instanceMethod yX2_has, Cond.selects RX2 yX2_has yX2_has, Cond.initialized RX2, Cond.code yX2_has cX2_has 2 (some .boolean), Cond.fieldLink RX2 28 "SeatsRound$Keepers" "count" "I", Cond.methodLink RX11 290 yX6_empty, Cond.instanceMethod yX6_empty, Cond.selects RX6 yX6_empty yX6_empty, Cond.initialized RX6, Cond.code yX6_empty cX6_empty 2 none, Cond.fieldLink RX6 11 "SeatsRound$Parcels" "version" "[[I", Cond.fieldLink RX6 16 "SeatsRound$Parcels" "kept" "[[I", Cond.methodLink RX6 124 yJ7_fill_53178, Cond.static yJ7_fill_53178, Cond.initialized RJ7, Cond.code yJ7_fill_53178 cJ7_fill_53178 4 none], wsX110, wsX20, wsX60]
set_option maxRecDepth 20000 in
theorem ciX11_fall : ∀ l ∈ csX11_fall, ∀ w ∈ l, w ∈ wsX11_fall := by
  unfold csX11_fall
  refine List.forall_mem_cons.mpr ⟨fun _ h => List.mem_cons.mpr (Or.inl (List.mem_singleton.mp h)), List.forall_mem_cons.mpr ⟨fun _ h => List.mem_cons_of_mem _ (List.mem_append_left _ (List.mem_append_left _ (List.mem_append_left _ h))), List.forall_mem_cons.mpr ⟨fun _ h => List.mem_cons_of_mem _ (List.mem_append_left _ (List.mem_append_left _ (List.mem_append_right _ h))), List.forall_mem_cons.mpr ⟨fun _ h => List.mem_cons_of_mem _ (List.mem_append_left _ (List.mem_append_right _ h)), List.forall_mem_cons.mpr ⟨fun _ h => List.mem_cons_of_mem _ (List.mem_append_right _ h), fun l h => absurd h List.not_mem_nil⟩⟩⟩⟩⟩
set_option maxRecDepth 20000 in
theorem ggX11_fall_X2_has : GoodIn wsX11_fall wsX2_has := goodIn_r2 csX11_fall ciX11_fall _ [(1, 7), (1, 8), (3, 0), (3, 1), (3, 2), (3, 3), (3, 4), (3, 5)] rfl rfl
set_option maxRecDepth 20000 in
theorem gX11_fall_X2_has : GoodIn wsX11_fall (wsV RX11 137 RX2 yX2_has wsX2_has) := goodIn_app (goodIn_r2 csX11_fall ciX11_fall _ [(1, 3), (1, 4), (1, 5), (1, 6)] rfl rfl) ggX11_fall_X2_has
theorem daX11_fall_R34 : ([(0, .aload_n 0, 1), (1, .getfield 26, 3), (4, .iload_n 1, 1), (5, .invokevirtual 137, 3), (8, .ifCond .eq 12, 3), (20, .iconst (-1), 1), (21, .ireturn, 1)] : List (Nat × Instr × Nat)).all (fun x => decide (decode cX11_fall x.1 = .ok x.2)) = true := by decide +kernel
theorem dX11_fall_0 : decode cX11_fall 0 = .ok (.aload_n 0, 1) := dq_at daX11_fall_R34 (i := 0) rfl
theorem dX11_fall_1 : decode cX11_fall 1 = .ok (.getfield 26, 3) := dq_at daX11_fall_R34 (i := 1) rfl
theorem dX11_fall_4 : decode cX11_fall 4 = .ok (.iload_n 1, 1) := dq_at daX11_fall_R34 (i := 2) rfl
theorem dX11_fall_5 : decode cX11_fall 5 = .ok (.invokevirtual 137, 3) := dq_at daX11_fall_R34 (i := 3) rfl
theorem dX11_fall_8 : decode cX11_fall 8 = .ok (.ifCond .eq 12, 3) := dq_at daX11_fall_R34 (i := 4) rfl
theorem dX11_fall_20 : decode cX11_fall 20 = .ok (.iconst (-1), 1) := dq_at daX11_fall_R34 (i := 5) rfl
theorem dX11_fall_21 : decode cX11_fall 21 = .ok (.ireturn, 1) := dq_at daX11_fall_R34 (i := 6) rfl
noncomputable def csX11_half : List (List Cond) := [[Cond.code yX11_half cX11_half 4 (some .int)], wsX11_half_r1, wsX11_half_r2, wsX110, wsX60, wsX40, wsX20]
set_option maxRecDepth 20000 in
theorem ciX11_half : ∀ l ∈ csX11_half, ∀ w ∈ l, w ∈ wsX11_half := by
  unfold csX11_half
  refine List.forall_mem_cons.mpr ⟨fun _ h => List.mem_cons.mpr (Or.inl (List.mem_singleton.mp h)), List.forall_mem_cons.mpr ⟨fun _ h => List.mem_cons_of_mem _ (List.mem_append_left _ (List.mem_append_left _ (List.mem_append_left _ (List.mem_append_left _ (List.mem_append_left _ h))))), List.forall_mem_cons.mpr ⟨fun _ h => List.mem_cons_of_mem _ (List.mem_append_left _ (List.mem_append_left _ (List.mem_append_left _ (List.mem_append_left _ (List.mem_append_right _ h))))), List.forall_mem_cons.mpr ⟨fun _ h => List.mem_cons_of_mem _ (List.mem_append_left _ (List.mem_append_left _ (List.mem_append_left _ (List.mem_append_right _ h)))), List.forall_mem_cons.mpr ⟨fun _ h => List.mem_cons_of_mem _ (List.mem_append_left _ (List.mem_append_left _ (List.mem_append_right _ h))), List.forall_mem_cons.mpr ⟨fun _ h => List.mem_cons_of_mem _ (List.mem_append_left _ (List.mem_append_right _ h)), List.forall_mem_cons.mpr ⟨fun _ h => List.mem_cons_of_mem _ (List.mem_append_right _ h), fun l h => absurd h List.not_mem_nil⟩⟩⟩⟩⟩⟩⟩
set_option maxRecDepth 20000 in
theorem ggX11_half_X4_has : GoodIn wsX11_half wsX4_has := goodIn_r2 csX11_half ciX11_half _ [(1, 8), (1, 9), (5, 0), (5, 1), (5, 2), (5, 3)] rfl rfl
set_option maxRecDepth 20000 in
theorem gX11_half_X4_has : GoodIn wsX11_half (wsV RX11 123 RX4 yX4_has wsX4_has) := goodIn_app (goodIn_r2 csX11_half ciX11_half _ [(1, 4), (1, 5), (1, 6), (1, 7)] rfl rfl) ggX11_half_X4_has
theorem daX11_half_R35 : ([(0, .aload_n 0, 1), (1, .getfield 19, 3), (4, .iload_n 1, 1), (5, .invokevirtual 123, 3), (8, .ifCond .eq 30, 3), (38, .iconst (-1), 1), (39, .ireturn, 1)] : List (Nat × Instr × Nat)).all (fun x => decide (decode cX11_half x.1 = .ok x.2)) = true := by decide +kernel
theorem dX11_half_0 : decode cX11_half 0 = .ok (.aload_n 0, 1) := dq_at daX11_half_R35 (i := 0) rfl
theorem dX11_half_1 : decode cX11_half 1 = .ok (.getfield 19, 3) := dq_at daX11_half_R35 (i := 1) rfl
theorem dX11_half_4 : decode cX11_half 4 = .ok (.iload_n 1, 1) := dq_at daX11_half_R35 (i := 2) rfl
theorem dX11_half_5 : decode cX11_half 5 = .ok (.invokevirtual 123, 3) := dq_at daX11_half_R35 (i := 3) rfl
theorem dX11_half_8 : decode cX11_half 8 = .ok (.ifCond .eq 30, 3) := dq_at daX11_half_R35 (i := 4) rfl
theorem dX11_half_38 : decode cX11_half 38 = .ok (.iconst (-1), 1) := dq_at daX11_half_R35 (i := 5) rfl
theorem dX11_half_39 : decode cX11_half 39 = .ok (.ireturn, 1) := dq_at daX11_half_R35 (i := 6) rfl
noncomputable def csX11_mend : List (List Cond) := [[Cond.code yX11_mend cX11_mend 3 (some .int)], wsX11_mend_r1, wsX11_mend_r2, wsX11_mend_r3, wsX11_mend_r4, wsX11_mend_r5, wsX11_mend_r6, wsX110, wsX60, wsX40, wsX80, wsX10, wsX20]
set_option maxRecDepth 20000 in
theorem ciX11_mend : ∀ l ∈ csX11_mend, ∀ w ∈ l, w ∈ wsX11_mend := by
  unfold csX11_mend
  refine List.forall_mem_cons.mpr ⟨fun _ h => List.mem_cons.mpr (Or.inl (List.mem_singleton.mp h)), List.forall_mem_cons.mpr ⟨fun _ h => List.mem_cons_of_mem _ (List.mem_append_left _ (List.mem_append_left _ (List.mem_append_left _ (List.mem_append_left _ (List.mem_append_left _ (List.mem_append_left _ (List.mem_append_left _ h))))))), List.forall_mem_cons.mpr ⟨fun _ h => List.mem_cons_of_mem _ (List.mem_append_left _ (List.mem_append_left _ (List.mem_append_left _ (List.mem_append_left _ (List.mem_append_left _ (List.mem_append_left _ (List.mem_append_right _ (List.mem_append_left _ h)))))))), List.forall_mem_cons.mpr ⟨fun _ h => List.mem_cons_of_mem _ (List.mem_append_left _ (List.mem_append_left _ (List.mem_append_left _ (List.mem_append_left _ (List.mem_append_left _ (List.mem_append_left _ (List.mem_append_right _ (List.mem_append_right _ (List.mem_append_left _ h))))))))), List.forall_mem_cons.mpr ⟨fun _ h => List.mem_cons_of_mem _ (List.mem_append_left _ (List.mem_append_left _ (List.mem_append_left _ (List.mem_append_left _ (List.mem_append_left _ (List.mem_append_left _ (List.mem_append_right _ (List.mem_append_right _ (List.mem_append_right _ (List.mem_append_left _ h)))))))))), List.forall_mem_cons.mpr ⟨fun _ h => List.mem_cons_of_mem _ (List.mem_append_left _ (List.mem_append_left _ (List.mem_append_left _ (List.mem_append_left _ (List.mem_append_left _ (List.mem_append_left _ (List.mem_append_right _ (List.mem_append_right _ (List.mem_append_right _ (List.mem_append_right _ (List.mem_append_left _ h))))))))))), List.forall_mem_cons.mpr ⟨fun _ h => List.mem_cons_of_mem _ (List.mem_append_left _ (List.mem_append_left _ (List.mem_append_left _ (List.mem_append_left _ (List.mem_append_left _ (List.mem_append_left _ (List.mem_append_right _ (List.mem_append_right _ (List.mem_append_right _ (List.mem_append_right _ (List.mem_append_right _ h))))))))))), List.forall_mem_cons.mpr ⟨fun _ h => List.mem_cons_of_mem _ (List.mem_append_left _ (List.mem_append_left _ (List.mem_append_left _ (List.mem_append_left _ (List.mem_append_left _ (List.mem_append_right _ h)))))), List.forall_mem_cons.mpr ⟨fun _ h => List.mem_cons_of_mem _ (List.mem_append_left _ (List.mem_append_left _ (List.mem_append_left _ (List.mem_append_left _ (List.mem_append_right _ h))))), List.forall_mem_cons.mpr ⟨fun _ h => List.mem_cons_of_mem _ (List.mem_append_left _ (List.mem_append_left _ (List.mem_append_left _ (List.mem_append_right _ h)))), List.forall_mem_cons.mpr ⟨fun _ h => List.mem_cons_of_mem _ (List.mem_append_left _ (List.mem_append_left _ (List.mem_append_right _ h))), List.forall_mem_cons.mpr ⟨fun _ h => List.mem_cons_of_mem _ (List.mem_append_left _ (List.mem_append_right _ h)), List.forall_mem_cons.mpr ⟨fun _ h => List.mem_cons_of_mem _ (List.mem_append_right _ h), fun l h => absurd h List.not_mem_nil⟩⟩⟩⟩⟩⟩⟩⟩⟩⟩⟩⟩⟩
set_option maxRecDepth 20000 in
theorem ggX11_mend_X11_tableAt : GoodIn wsX11_mend wsX11_tableAt := goodIn_r2 csX11_mend ciX11_mend _ [(1, 5), (1, 6), (1, 7), (7, 0), (7, 1), (7, 2), (7, 3), (7, 4), (7, 5), (7, 6), (7, 7), (7, 8), (7, 9), (7, 10), (7, 11), (7, 12)] rfl rfl
set_option maxRecDepth 20000 in
theorem gX11_mend_X11_tableAt : GoodIn wsX11_mend (wsV RX11 192 RX11 yX11_tableAt wsX11_tableAt) := goodIn_app (goodIn_r2 csX11_mend ciX11_mend _ [(1, 1), (1, 2), (1, 3), (1, 4)] rfl rfl) ggX11_mend_X11_tableAt
theorem daX11_mend_R36 : ([(0, .aload_n 0, 1), (1, .iload_n 1, 1), (2, .invokevirtual 192, 3), (5, .astore_n 2, 1), (6, .aload_n 2, 1), (7, .ifnonnull 5, 3), (10, .iconst (-1), 1), (11, .ireturn, 1)] : List (Nat × Instr × Nat)).all (fun x => decide (decode cX11_mend x.1 = .ok x.2)) = true := by decide +kernel
theorem dX11_mend_0 : decode cX11_mend 0 = .ok (.aload_n 0, 1) := dq_at daX11_mend_R36 (i := 0) rfl
theorem dX11_mend_1 : decode cX11_mend 1 = .ok (.iload_n 1, 1) := dq_at daX11_mend_R36 (i := 1) rfl
theorem dX11_mend_2 : decode cX11_mend 2 = .ok (.invokevirtual 192, 3) := dq_at daX11_mend_R36 (i := 2) rfl
theorem dX11_mend_5 : decode cX11_mend 5 = .ok (.astore_n 2, 1) := dq_at daX11_mend_R36 (i := 3) rfl
theorem dX11_mend_6 : decode cX11_mend 6 = .ok (.aload_n 2, 1) := dq_at daX11_mend_R36 (i := 4) rfl
theorem dX11_mend_7 : decode cX11_mend 7 = .ok (.ifnonnull 5, 3) := dq_at daX11_mend_R36 (i := 5) rfl
theorem dX11_mend_10 : decode cX11_mend 10 = .ok (.iconst (-1), 1) := dq_at daX11_mend_R36 (i := 6) rfl
theorem dX11_mend_11 : decode cX11_mend 11 = .ok (.ireturn, 1) := dq_at daX11_mend_R36 (i := 7) rfl
noncomputable def csX11_trees : List (List Cond) := [[Cond.code yX11_trees cX11_trees 4 (some .int)], wsX11_trees_r1, wsX11_trees_r2, wsX110, wsX20, wsX60, wsX40]
set_option maxRecDepth 20000 in
theorem ciX11_trees : ∀ l ∈ csX11_trees, ∀ w ∈ l, w ∈ wsX11_trees := by
  unfold csX11_trees
  refine List.forall_mem_cons.mpr ⟨fun _ h => List.mem_cons.mpr (Or.inl (List.mem_singleton.mp h)), List.forall_mem_cons.mpr ⟨fun _ h => List.mem_cons_of_mem _ (List.mem_append_left _ (List.mem_append_left _ (List.mem_append_left _ (List.mem_append_left _ (List.mem_append_left _ h))))), List.forall_mem_cons.mpr ⟨fun _ h => List.mem_cons_of_mem _ (List.mem_append_left _ (List.mem_append_left _ (List.mem_append_left _ (List.mem_append_left _ (List.mem_append_right _ h))))), List.forall_mem_cons.mpr ⟨fun _ h => List.mem_cons_of_mem _ (List.mem_append_left _ (List.mem_append_left _ (List.mem_append_left _ (List.mem_append_right _ h)))), List.forall_mem_cons.mpr ⟨fun _ h => List.mem_cons_of_mem _ (List.mem_append_left _ (List.mem_append_left _ (List.mem_append_right _ h))), List.forall_mem_cons.mpr ⟨fun _ h => List.mem_cons_of_mem _ (List.mem_append_left _ (List.mem_append_right _ h)), List.forall_mem_cons.mpr ⟨fun _ h => List.mem_cons_of_mem _ (List.mem_append_right _ h), fun l h => absurd h List.not_mem_nil⟩⟩⟩⟩⟩⟩⟩
set_option maxRecDepth 20000 in
theorem ggX11_trees_X2_has : GoodIn wsX11_trees wsX2_has := goodIn_r2 csX11_trees ciX11_trees _ [(1, 6), (1, 7), (4, 0), (4, 1), (4, 2), (4, 3), (4, 4), (4, 5)] rfl rfl
set_option maxRecDepth 20000 in
theorem gX11_trees_X2_has : GoodIn wsX11_trees (wsV RX11 137 RX2 yX2_has wsX2_has) := goodIn_app (goodIn_r2 csX11_trees ciX11_trees _ [(1, 2), (1, 3), (1, 4), (1, 5)] rfl rfl) ggX11_trees_X2_has
theorem daX11_trees_R37 : ([(0, .aload_n 0, 1), (1, .getfield 26, 3), (4, .iload_n 1, 1), (5, .invokevirtual 137, 3), (8, .ifCond .eq 19, 3), (27, .iconst (-1), 1), (28, .ireturn, 1)] : List (Nat × Instr × Nat)).all (fun x => decide (decode cX11_trees x.1 = .ok x.2)) = true := by decide +kernel
theorem dX11_trees_0 : decode cX11_trees 0 = .ok (.aload_n 0, 1) := dq_at daX11_trees_R37 (i := 0) rfl
theorem dX11_trees_1 : decode cX11_trees 1 = .ok (.getfield 26, 3) := dq_at daX11_trees_R37 (i := 1) rfl
theorem dX11_trees_4 : decode cX11_trees 4 = .ok (.iload_n 1, 1) := dq_at daX11_trees_R37 (i := 2) rfl
theorem dX11_trees_5 : decode cX11_trees 5 = .ok (.invokevirtual 137, 3) := dq_at daX11_trees_R37 (i := 3) rfl
theorem dX11_trees_8 : decode cX11_trees 8 = .ok (.ifCond .eq 19, 3) := dq_at daX11_trees_R37 (i := 4) rfl
theorem dX11_trees_27 : decode cX11_trees 27 = .ok (.iconst (-1), 1) := dq_at daX11_trees_R37 (i := 5) rfl
theorem dX11_trees_28 : decode cX11_trees 28 = .ok (.ireturn, 1) := dq_at daX11_trees_R37 (i := 6) rfl
noncomputable def csX11_noon : List (List Cond) := [[Cond.code yX11_noon cX11_noon 7 (some .int)], [Cond.fieldLink RX11 196 "SeatsRound$Table" "members" "I", Cond.methodLink RX11 192 yX11_tableAt, Cond.instanceMethod yX11_tableAt, Cond.selects RX11 yX11_tableAt yX11_tableAt, Cond.initialized RX11, Cond.code yX11_tableAt cX11_tableAt 2 (some (.object "SeatsRound$Table")), Cond.fieldLink RX11 52 "SeatsRound" "tableCount" "I", Cond.fieldLink RX11 48 "SeatsRound" "tables" "[LSeatsRound$Table;", Cond.methodLink RX11 246 yJ6_bitCount_0f7a4, Cond.static yJ6_bitCount_0f7a4, Cond.initialized RJ6, Cond.code yJ6_bitCount_0f7a4 cJ6_bitCount_0f7a4 1 (some .int), Cond.constant RJ6 265 (1431655765), Cond.constant RJ6 266 (858993459), Cond.constant RJ6 267 (252645135), Cond.methodLink RX11 309 yX11_upward, Cond.static yX11_upward, Cond.code yX11_upward cX11_upward 2 (some .int)], wsX80, wsX110]
set_option maxRecDepth 20000 in
theorem ciX11_noon : ∀ l ∈ csX11_noon, ∀ w ∈ l, w ∈ wsX11_noon := by
  unfold csX11_noon
  refine List.forall_mem_cons.mpr ⟨fun _ h => List.mem_cons.mpr (Or.inl (List.mem_singleton.mp h)), List.forall_mem_cons.mpr ⟨fun _ h => List.mem_cons_of_mem _ (List.mem_append_left _ (List.mem_append_left _ h)), List.forall_mem_cons.mpr ⟨fun _ h => List.mem_cons_of_mem _ (List.mem_append_left _ (List.mem_append_right _ h)), List.forall_mem_cons.mpr ⟨fun _ h => List.mem_cons_of_mem _ (List.mem_append_right _ h), fun l h => absurd h List.not_mem_nil⟩⟩⟩⟩
set_option maxRecDepth 20000 in
theorem ggX11_noon_X11_tableAt : GoodIn wsX11_noon wsX11_tableAt := goodIn_r2 csX11_noon ciX11_noon _ [(1, 5), (1, 6), (1, 7), (3, 0), (3, 1), (3, 2), (3, 3), (3, 4), (3, 5), (3, 6), (3, 7), (3, 8), (3, 9), (3, 10), (3, 11), (3, 12)] rfl rfl
set_option maxRecDepth 20000 in
theorem gX11_noon_X11_tableAt : GoodIn wsX11_noon (wsV RX11 192 RX11 yX11_tableAt wsX11_tableAt) := goodIn_app (goodIn_r2 csX11_noon ciX11_noon _ [(1, 1), (1, 2), (1, 3), (1, 4)] rfl rfl) ggX11_noon_X11_tableAt
theorem daX11_noon_R38 : ([(0, .aload_n 0, 1), (1, .iload_n 1, 1), (2, .invokevirtual 192, 3), (5, .astore 4, 2), (7, .aload 4, 2), (9, .ifnull 25, 3), (34, .iconst (-1), 1), (35, .ireturn, 1)] : List (Nat × Instr × Nat)).all (fun x => decide (decode cX11_noon x.1 = .ok x.2)) = true := by decide +kernel
theorem dX11_noon_0 : decode cX11_noon 0 = .ok (.aload_n 0, 1) := dq_at daX11_noon_R38 (i := 0) rfl
theorem dX11_noon_1 : decode cX11_noon 1 = .ok (.iload_n 1, 1) := dq_at daX11_noon_R38 (i := 1) rfl
theorem dX11_noon_2 : decode cX11_noon 2 = .ok (.invokevirtual 192, 3) := dq_at daX11_noon_R38 (i := 2) rfl
theorem dX11_noon_5 : decode cX11_noon 5 = .ok (.astore 4, 2) := dq_at daX11_noon_R38 (i := 3) rfl
theorem dX11_noon_7 : decode cX11_noon 7 = .ok (.aload 4, 2) := dq_at daX11_noon_R38 (i := 4) rfl
theorem dX11_noon_9 : decode cX11_noon 9 = .ok (.ifnull 25, 3) := dq_at daX11_noon_R38 (i := 5) rfl
theorem dX11_noon_34 : decode cX11_noon 34 = .ok (.iconst (-1), 1) := dq_at daX11_noon_R38 (i := 6) rfl
theorem dX11_noon_35 : decode cX11_noon 35 = .ok (.ireturn, 1) := dq_at daX11_noon_R38 (i := 7) rfl
noncomputable def csX11_lies : List (List Cond) := [[Cond.code yX11_lies cX11_lies 7 (some .int)], [Cond.fieldLink RX11 26 "SeatsRound" "keepers" "LSeatsRound$Keepers;", Cond.fieldLink RX11 149 "SeatsRound$Keepers" "strength" "[I", Cond.methodLink RX11 312 Lib.Math.max.name, Cond.static Lib.Math.max.name, Cond.initialized "java/lang/Math", Cond.code Lib.Math.max.name Lib.Math.max.code 2 (some .int), Cond.methodLink RX11 137 yX2_has, Cond.instanceMethod yX2_has, Cond.selects RX2 yX2_has yX2_has, Cond.initialized RX2, Cond.code yX2_has cX2_has 2 (some .boolean), Cond.fieldLink RX2 28 "SeatsRound$Keepers" "count" "I", Cond.methodLink RX11 309 yX11_upward, Cond.static yX11_upward, Cond.initialized RX11, Cond.code yX11_upward cX11_upward 2 (some .int)], wsX110, wsX20]
set_option maxRecDepth 20000 in
theorem ciX11_lies : ∀ l ∈ csX11_lies, ∀ w ∈ l, w ∈ wsX11_lies := by
  unfold csX11_lies
  refine List.forall_mem_cons.mpr ⟨fun _ h => List.mem_cons.mpr (Or.inl (List.mem_singleton.mp h)), List.forall_mem_cons.mpr ⟨fun _ h => List.mem_cons_of_mem _ (List.mem_append_left _ (List.mem_append_left _ h)), List.forall_mem_cons.mpr ⟨fun _ h => List.mem_cons_of_mem _ (List.mem_append_left _ (List.mem_append_right _ h)), List.forall_mem_cons.mpr ⟨fun _ h => List.mem_cons_of_mem _ (List.mem_append_right _ h), fun l h => absurd h List.not_mem_nil⟩⟩⟩⟩
set_option maxRecDepth 20000 in
theorem ggX11_lies_X2_has : GoodIn wsX11_lies wsX2_has := goodIn_r2 csX11_lies ciX11_lies _ [(1, 10), (1, 11), (3, 0), (3, 1), (3, 2), (3, 3), (3, 4), (3, 5)] rfl rfl
set_option maxRecDepth 20000 in
theorem gX11_lies_X2_has : GoodIn wsX11_lies (wsV RX11 137 RX2 yX2_has wsX2_has) := goodIn_app (goodIn_r2 csX11_lies ciX11_lies _ [(1, 6), (1, 7), (1, 8), (1, 9)] rfl rfl) ggX11_lies_X2_has
theorem daX11_lies_R39 : ([(0, .aload_n 0, 1), (1, .getfield 26, 3), (4, .iload_n 1, 1), (5, .invokevirtual 137, 3), (8, .ifCond .eq 18, 3), (26, .iconst (-1), 1), (27, .ireturn, 1)] : List (Nat × Instr × Nat)).all (fun x => decide (decode cX11_lies x.1 = .ok x.2)) = true := by decide +kernel
theorem dX11_lies_0 : decode cX11_lies 0 = .ok (.aload_n 0, 1) := dq_at daX11_lies_R39 (i := 0) rfl
theorem dX11_lies_1 : decode cX11_lies 1 = .ok (.getfield 26, 3) := dq_at daX11_lies_R39 (i := 1) rfl
theorem dX11_lies_4 : decode cX11_lies 4 = .ok (.iload_n 1, 1) := dq_at daX11_lies_R39 (i := 2) rfl
theorem dX11_lies_5 : decode cX11_lies 5 = .ok (.invokevirtual 137, 3) := dq_at daX11_lies_R39 (i := 3) rfl
theorem dX11_lies_8 : decode cX11_lies 8 = .ok (.ifCond .eq 18, 3) := dq_at daX11_lies_R39 (i := 4) rfl
theorem dX11_lies_26 : decode cX11_lies 26 = .ok (.iconst (-1), 1) := dq_at daX11_lies_R39 (i := 5) rfl
theorem dX11_lies_27 : decode cX11_lies 27 = .ok (.ireturn, 1) := dq_at daX11_lies_R39 (i := 6) rfl
noncomputable def csX11_comes : List (List Cond) := [[Cond.code yX11_comes cX11_comes 2 (some .int)], [Cond.fieldLink RX11 26 "SeatsRound" "keepers" "LSeatsRound$Keepers;", Cond.fieldLink RX11 75 "SeatsRound" "orders" "LSeatsRound$Orders;", Cond.fieldLink RX11 320 "SeatsRound$Orders" "toldCount" "I", Cond.fieldLink RX11 323 "SeatsRound$Orders" "told" "[I", Cond.methodLink RX11 137 yX2_has, Cond.instanceMethod yX2_has, Cond.selects RX2 yX2_has yX2_has, Cond.initialized RX2, Cond.code yX2_has cX2_has 2 (some .boolean), Cond.fieldLink RX2 28 "SeatsRound$Keepers" "count" "I", Cond.methodLink RX11 317 yX5_isTold, Cond.instanceMethod yX5_isTold, Cond.selects RX5 yX5_isTold yX5_isTold, Cond.initialized RX5, Cond.code yX5_isTold cX5_isTold 3 (some .boolean), Cond.fieldLink RX5 15 "SeatsRound$Orders" "toldCount" "I", Cond.fieldLink RX5 9 "SeatsRound$Orders" "told" "[I"], wsX110, wsX50, wsX20]
set_option maxRecDepth 20000 in
theorem ciX11_comes : ∀ l ∈ csX11_comes, ∀ w ∈ l, w ∈ wsX11_comes := by
  unfold csX11_comes
  refine List.forall_mem_cons.mpr ⟨fun _ h => List.mem_cons.mpr (Or.inl (List.mem_singleton.mp h)), List.forall_mem_cons.mpr ⟨fun _ h => List.mem_cons_of_mem _ (List.mem_append_left _ (List.mem_append_left _ (List.mem_append_left _ h))), List.forall_mem_cons.mpr ⟨fun _ h => List.mem_cons_of_mem _ (List.mem_append_left _ (List.mem_append_left _ (List.mem_append_right _ h))), List.forall_mem_cons.mpr ⟨fun _ h => List.mem_cons_of_mem _ (List.mem_append_left _ (List.mem_append_right _ h)), List.forall_mem_cons.mpr ⟨fun _ h => List.mem_cons_of_mem _ (List.mem_append_right _ h), fun l h => absurd h List.not_mem_nil⟩⟩⟩⟩⟩
set_option maxRecDepth 20000 in
theorem ggX11_comes_X2_has : GoodIn wsX11_comes wsX2_has := goodIn_r2 csX11_comes ciX11_comes _ [(1, 8), (1, 9), (4, 0), (4, 1), (4, 2), (4, 3), (4, 4), (4, 5)] rfl rfl
set_option maxRecDepth 20000 in
theorem gX11_comes_X2_has : GoodIn wsX11_comes (wsV RX11 137 RX2 yX2_has wsX2_has) := goodIn_app (goodIn_r2 csX11_comes ciX11_comes _ [(1, 4), (1, 5), (1, 6), (1, 7)] rfl rfl) ggX11_comes_X2_has
theorem daX11_comes_R40 : ([(0, .aload_n 0, 1), (1, .getfield 26, 3), (4, .iload_n 1, 1), (5, .invokevirtual 137, 3), (8, .ifCond .eq 14, 3), (22, .iconst (-1), 1), (23, .ireturn, 1)] : List (Nat × Instr × Nat)).all (fun x => decide (decode cX11_comes x.1 = .ok x.2)) = true := by decide +kernel
theorem dX11_comes_0 : decode cX11_comes 0 = .ok (.aload_n 0, 1) := dq_at daX11_comes_R40 (i := 0) rfl
theorem dX11_comes_1 : decode cX11_comes 1 = .ok (.getfield 26, 3) := dq_at daX11_comes_R40 (i := 1) rfl
theorem dX11_comes_4 : decode cX11_comes 4 = .ok (.iload_n 1, 1) := dq_at daX11_comes_R40 (i := 2) rfl
theorem dX11_comes_5 : decode cX11_comes 5 = .ok (.invokevirtual 137, 3) := dq_at daX11_comes_R40 (i := 3) rfl
theorem dX11_comes_8 : decode cX11_comes 8 = .ok (.ifCond .eq 14, 3) := dq_at daX11_comes_R40 (i := 4) rfl
theorem dX11_comes_22 : decode cX11_comes 22 = .ok (.iconst (-1), 1) := dq_at daX11_comes_R40 (i := 5) rfl
theorem dX11_comes_23 : decode cX11_comes 23 = .ok (.ireturn, 1) := dq_at daX11_comes_R40 (i := 6) rfl
noncomputable def csX11_order : List (List Cond) := [[Cond.code yX11_order cX11_order 4 (some .int)], wsX11_order_r1, wsX11_order_r2, wsX11_order_r3, wsX11_order_r4, wsX11_order_r5, wsX11_order_r6, wsX11_order_r7, wsX11_order_r8, wsX11_order_r9, wsX11_order_r10, wsX11_order_r11, wsX110, wsX50, wsX80, wsX40, wsX10, wsX20, wsX30]
set_option maxRecDepth 20000 in
theorem ciX11_order : ∀ l ∈ csX11_order, ∀ w ∈ l, w ∈ wsX11_order := by
  unfold csX11_order
  refine List.forall_mem_cons.mpr ⟨fun _ h => List.mem_cons.mpr (Or.inl (List.mem_singleton.mp h)), List.forall_mem_cons.mpr ⟨fun _ h => List.mem_cons_of_mem _ (List.mem_append_left _ (List.mem_append_left _ (List.mem_append_left _ (List.mem_append_left _ (List.mem_append_left _ (List.mem_append_left _ (List.mem_append_left _ (List.mem_append_left _ h)))))))), List.forall_mem_cons.mpr ⟨fun _ h => List.mem_cons_of_mem _ (List.mem_append_left _ (List.mem_append_left _ (List.mem_append_left _ (List.mem_append_left _ (List.mem_append_left _ (List.mem_append_left _ (List.mem_append_left _ (List.mem_append_right _ (List.mem_append_left _ h))))))))), List.forall_mem_cons.mpr ⟨fun _ h => List.mem_cons_of_mem _ (List.mem_append_left _ (List.mem_append_left _ (List.mem_append_left _ (List.mem_append_left _ (List.mem_append_left _ (List.mem_append_left _ (List.mem_append_left _ (List.mem_append_right _ (List.mem_append_right _ (List.mem_append_left _ h)))))))))), List.forall_mem_cons.mpr ⟨fun _ h => List.mem_cons_of_mem _ (List.mem_append_left _ (List.mem_append_left _ (List.mem_append_left _ (List.mem_append_left _ (List.mem_append_left _ (List.mem_append_left _ (List.mem_append_left _ (List.mem_append_right _ (List.mem_append_right _ (List.mem_append_right _ (List.mem_append_left _ h))))))))))), List.forall_mem_cons.mpr ⟨fun _ h => List.mem_cons_of_mem _ (List.mem_append_left _ (List.mem_append_left _ (List.mem_append_left _ (List.mem_append_left _ (List.mem_append_left _ (List.mem_append_left _ (List.mem_append_left _ (List.mem_append_right _ (List.mem_append_right _ (List.mem_append_right _ (List.mem_append_right _ (List.mem_append_left _ h)))))))))))), List.forall_mem_cons.mpr ⟨fun _ h => List.mem_cons_of_mem _ (List.mem_append_left _ (List.mem_append_left _ (List.mem_append_left _ (List.mem_append_left _ (List.mem_append_left _ (List.mem_append_left _ (List.mem_append_left _ (List.mem_append_right _ (List.mem_append_right _ (List.mem_append_right _ (List.mem_append_right _ (List.mem_append_right _ (List.mem_append_left _ h))))))))))))), List.forall_mem_cons.mpr ⟨fun _ h => List.mem_cons_of_mem _ (List.mem_append_left _ (List.mem_append_left _ (List.mem_append_left _ (List.mem_append_left _ (List.mem_append_left _ (List.mem_append_left _ (List.mem_append_left _ (List.mem_append_right _ (List.mem_append_right _ (List.mem_append_right _ (List.mem_append_right _ (List.mem_append_right _ (List.mem_append_right _ (List.mem_append_left _ h)))))))))))))), List.forall_mem_cons.mpr ⟨fun _ h => List.mem_cons_of_mem _ (List.mem_append_left _ (List.mem_append_left _ (List.mem_append_left _ (List.mem_append_left _ (List.mem_append_left _ (List.mem_append_left _ (List.mem_append_left _ (List.mem_append_right _ (List.mem_append_right _ (List.mem_append_right _ (List.mem_append_right _ (List.mem_append_right _ (List.mem_append_right _ (List.mem_append_right _ (List.mem_append_left _ h))))))))))))))), List.forall_mem_cons.mpr ⟨fun _ h => List.mem_cons_of_mem _ (List.mem_append_left _ (List.mem_append_left _ (List.mem_append_left _ (List.mem_append_left _ (List.mem_append_left _ (List.mem_append_left _ (List.mem_append_left _ (List.mem_append_right _ (List.mem_append_right _ (List.mem_append_right _ (List.mem_append_right _ (List.mem_append_right _ (List.mem_append_right _ (List.mem_append_right _ (List.mem_append_right _ (List.mem_append_left _ h)))))))))))))))), List.forall_mem_cons.mpr ⟨fun _ h => List.mem_cons_of_mem _ (List.mem_append_left _ (List.mem_append_left _ (List.mem_append_left _ (List.mem_append_left _ (List.mem_append_left _ (List.mem_append_left _ (List.mem_append_left _ (List.mem_append_right _ (List.mem_append_right _ (List.mem_append_right _ (List.mem_append_right _ (List.mem_append_right _ (List.mem_append_right _ (List.mem_append_right _ (List.mem_append_right _ (List.mem_append_right _ (List.mem_append_left _ h))))))))))))))))), List.forall_mem_cons.mpr ⟨fun _ h => List.mem_cons_of_mem _ (List.mem_append_left _ (List.mem_append_left _ (List.mem_append_left _ (List.mem_append_left _ (List.mem_append_left _ (List.mem_append_left _ (List.mem_append_left _ (List.mem_append_right _ (List.mem_append_right _ (List.mem_append_right _ (List.mem_append_right _ (List.mem_append_right _ (List.mem_append_right _ (List.mem_append_right _ (List.mem_append_right _ (List.mem_append_right _ (List.mem_append_right _ h))))))))))))))))), List.forall_mem_cons.mpr ⟨fun _ h => List.mem_cons_of_mem _ (List.mem_append_left _ (List.mem_append_left _ (List.mem_append_left _ (List.mem_append_left _ (List.mem_append_left _ (List.mem_append_left _ (List.mem_append_right _ h))))))), List.forall_mem_cons.mpr ⟨fun _ h => List.mem_cons_of_mem _ (List.mem_append_left _ (List.mem_append_left _ (List.mem_append_left _ (List.mem_append_left _ (List.mem_append_left _ (List.mem_append_right _ h)))))), List.forall_mem_cons.mpr ⟨fun _ h => List.mem_cons_of_mem _ (List.mem_append_left _ (List.mem_append_left _ (List.mem_append_left _ (List.mem_append_left _ (List.mem_append_right _ h))))), List.forall_mem_cons.mpr ⟨fun _ h => List.mem_cons_of_mem _ (List.mem_append_left _ (List.mem_append_left _ (List.mem_append_left _ (List.mem_append_right _ h)))), List.forall_mem_cons.mpr ⟨fun _ h => List.mem_cons_of_mem _ (List.mem_append_left _ (List.mem_append_left _ (List.mem_append_right _ h))), List.forall_mem_cons.mpr ⟨fun _ h => List.mem_cons_of_mem _ (List.mem_append_left _ (List.mem_append_right _ h)), List.forall_mem_cons.mpr ⟨fun _ h => List.mem_cons_of_mem _ (List.mem_append_right _ h), fun l h => absurd h List.not_mem_nil⟩⟩⟩⟩⟩⟩⟩⟩⟩⟩⟩⟩⟩⟩⟩⟩⟩⟩⟩
set_option maxRecDepth 20000 in
theorem ggX11_order_X11_tableAt : GoodIn wsX11_order wsX11_tableAt := goodIn_r2 csX11_order ciX11_order _ [(1, 7), (1, 8), (1, 9), (12, 0), (12, 1), (12, 2), (12, 3), (12, 4), (12, 5), (12, 6), (12, 7), (12, 8), (12, 9), (12, 10), (12, 11), (12, 12)] rfl rfl
set_option maxRecDepth 20000 in
theorem gX11_order_X11_tableAt : GoodIn wsX11_order (wsV RX11 192 RX11 yX11_tableAt wsX11_tableAt) := goodIn_app (goodIn_r2 csX11_order ciX11_order _ [(1, 3), (1, 4), (1, 5), (1, 6)] rfl rfl) ggX11_order_X11_tableAt
theorem daX11_order_R41 : ([(0, .aload_n 0, 1), (1, .iload_n 1, 1), (2, .invokevirtual 192, 3), (5, .astore_n 2, 1), (6, .aload_n 2, 1), (7, .ifnull 13, 3), (20, .iconst (-1), 1), (21, .ireturn, 1)] : List (Nat × Instr × Nat)).all (fun x => decide (decode cX11_order x.1 = .ok x.2)) = true := by decide +kernel
theorem dX11_order_0 : decode cX11_order 0 = .ok (.aload_n 0, 1) := dq_at daX11_order_R41 (i := 0) rfl
theorem dX11_order_1 : decode cX11_order 1 = .ok (.iload_n 1, 1) := dq_at daX11_order_R41 (i := 1) rfl
theorem dX11_order_2 : decode cX11_order 2 = .ok (.invokevirtual 192, 3) := dq_at daX11_order_R41 (i := 2) rfl
theorem dX11_order_5 : decode cX11_order 5 = .ok (.astore_n 2, 1) := dq_at daX11_order_R41 (i := 3) rfl
theorem dX11_order_6 : decode cX11_order 6 = .ok (.aload_n 2, 1) := dq_at daX11_order_R41 (i := 4) rfl
theorem dX11_order_7 : decode cX11_order 7 = .ok (.ifnull 13, 3) := dq_at daX11_order_R41 (i := 5) rfl
theorem dX11_order_20 : decode cX11_order 20 = .ok (.iconst (-1), 1) := dq_at daX11_order_R41 (i := 6) rfl
theorem dX11_order_21 : decode cX11_order 21 = .ok (.ireturn, 1) := dq_at daX11_order_R41 (i := 7) rfl
theorem daX11_ordered_R42 : ([(0, .iload_n 1, 1), (1, .ifCond .lt 26, 3), (4, .iload_n 1, 1), (5, .aload_n 0, 1), (6, .getfield 75, 3), (9, .getfield 330, 3), (12, .if_icmp .ge 15, 3), (27, .iconst (-1), 1), (28, .ireturn, 1)] : List (Nat × Instr × Nat)).all (fun x => decide (decode cX11_ordered x.1 = .ok x.2)) = true := by decide +kernel
theorem dX11_ordered_0 : decode cX11_ordered 0 = .ok (.iload_n 1, 1) := dq_at daX11_ordered_R42 (i := 0) rfl
theorem dX11_ordered_1 : decode cX11_ordered 1 = .ok (.ifCond .lt 26, 3) := dq_at daX11_ordered_R42 (i := 1) rfl
theorem dX11_ordered_4 : decode cX11_ordered 4 = .ok (.iload_n 1, 1) := dq_at daX11_ordered_R42 (i := 2) rfl
theorem dX11_ordered_5 : decode cX11_ordered 5 = .ok (.aload_n 0, 1) := dq_at daX11_ordered_R42 (i := 3) rfl
theorem dX11_ordered_6 : decode cX11_ordered 6 = .ok (.getfield 75, 3) := dq_at daX11_ordered_R42 (i := 4) rfl
theorem dX11_ordered_9 : decode cX11_ordered 9 = .ok (.getfield 330, 3) := dq_at daX11_ordered_R42 (i := 5) rfl
theorem dX11_ordered_12 : decode cX11_ordered 12 = .ok (.if_icmp .ge 15, 3) := dq_at daX11_ordered_R42 (i := 6) rfl
theorem dX11_ordered_27 : decode cX11_ordered 27 = .ok (.iconst (-1), 1) := dq_at daX11_ordered_R42 (i := 7) rfl
theorem dX11_ordered_28 : decode cX11_ordered 28 = .ok (.ireturn, 1) := dq_at daX11_ordered_R42 (i := 8) rfl
theorem daX11_turning_R43 : ([(0, .aload_n 0, 1), (1, .getfield 84, 3), (4, .getfield 336, 3), (7, .bipush 6, 2), (9, .if_icmp .lt 6, 3), (15, .aload_n 0, 1), (16, .getfield 84, 3), (19, .getfield 337, 3), (22, .aload_n 0, 1), (23, .getfield 84, 3), (26, .getfield 336, 3), (29, .iload_n 1, 1), (30, .iastore, 1), (31, .aload_n 0, 1), (32, .getfield 84, 3), (35, .dup, 1), (36, .getfield 336, 3), (39, .iconst 1, 1), (40, .iadd, 1), (41, .putfield 336, 3), (44, .aload_n 0, 1), (45, .getfield 84, 3), (48, .getfield 336, 3), (51, .ireturn, 1)] : List (Nat × Instr × Nat)).all (fun x => decide (decode cX11_turning x.1 = .ok x.2)) = true := by decide +kernel
theorem dX11_turning_0 : decode cX11_turning 0 = .ok (.aload_n 0, 1) := dq_at daX11_turning_R43 (i := 0) rfl
theorem dX11_turning_1 : decode cX11_turning 1 = .ok (.getfield 84, 3) := dq_at daX11_turning_R43 (i := 1) rfl
theorem dX11_turning_4 : decode cX11_turning 4 = .ok (.getfield 336, 3) := dq_at daX11_turning_R43 (i := 2) rfl
theorem dX11_turning_7 : decode cX11_turning 7 = .ok (.bipush 6, 2) := dq_at daX11_turning_R43 (i := 3) rfl
theorem dX11_turning_9 : decode cX11_turning 9 = .ok (.if_icmp .lt 6, 3) := dq_at daX11_turning_R43 (i := 4) rfl
theorem dX11_turning_15 : decode cX11_turning 15 = .ok (.aload_n 0, 1) := dq_at daX11_turning_R43 (i := 5) rfl
theorem dX11_turning_16 : decode cX11_turning 16 = .ok (.getfield 84, 3) := dq_at daX11_turning_R43 (i := 6) rfl
theorem dX11_turning_19 : decode cX11_turning 19 = .ok (.getfield 337, 3) := dq_at daX11_turning_R43 (i := 7) rfl
theorem dX11_turning_22 : decode cX11_turning 22 = .ok (.aload_n 0, 1) := dq_at daX11_turning_R43 (i := 8) rfl
theorem dX11_turning_23 : decode cX11_turning 23 = .ok (.getfield 84, 3) := dq_at daX11_turning_R43 (i := 9) rfl
theorem dX11_turning_26 : decode cX11_turning 26 = .ok (.getfield 336, 3) := dq_at daX11_turning_R43 (i := 10) rfl
theorem dX11_turning_29 : decode cX11_turning 29 = .ok (.iload_n 1, 1) := dq_at daX11_turning_R43 (i := 11) rfl
theorem dX11_turning_30 : decode cX11_turning 30 = .ok (.iastore, 1) := dq_at daX11_turning_R43 (i := 12) rfl
theorem dX11_turning_31 : decode cX11_turning 31 = .ok (.aload_n 0, 1) := dq_at daX11_turning_R43 (i := 13) rfl
theorem dX11_turning_32 : decode cX11_turning 32 = .ok (.getfield 84, 3) := dq_at daX11_turning_R43 (i := 14) rfl
theorem dX11_turning_35 : decode cX11_turning 35 = .ok (.dup, 1) := dq_at daX11_turning_R43 (i := 15) rfl
theorem dX11_turning_36 : decode cX11_turning 36 = .ok (.getfield 336, 3) := dq_at daX11_turning_R43 (i := 16) rfl
theorem dX11_turning_39 : decode cX11_turning 39 = .ok (.iconst 1, 1) := dq_at daX11_turning_R43 (i := 17) rfl
theorem dX11_turning_40 : decode cX11_turning 40 = .ok (.iadd, 1) := dq_at daX11_turning_R43 (i := 18) rfl
theorem dX11_turning_41 : decode cX11_turning 41 = .ok (.putfield 336, 3) := dq_at daX11_turning_R43 (i := 19) rfl
theorem dX11_turning_44 : decode cX11_turning 44 = .ok (.aload_n 0, 1) := dq_at daX11_turning_R43 (i := 20) rfl
theorem dX11_turning_45 : decode cX11_turning 45 = .ok (.getfield 84, 3) := dq_at daX11_turning_R43 (i := 21) rfl
theorem dX11_turning_48 : decode cX11_turning 48 = .ok (.getfield 336, 3) := dq_at daX11_turning_R43 (i := 22) rfl
theorem dX11_turning_51 : decode cX11_turning 51 = .ok (.ireturn, 1) := dq_at daX11_turning_R43 (i := 23) rfl
noncomputable def csX11_harm : List (List Cond) := [[Cond.code yX11_harm cX11_harm 3 (some .int)], wsX11_harm_r1, wsX11_harm_r2, wsX11_harm_r3, wsX11_harm_r4, wsX11_harm_r5, wsX110, wsX100, wsX80, wsX40]
set_option maxRecDepth 20000 in
theorem ciX11_harm : ∀ l ∈ csX11_harm, ∀ w ∈ l, w ∈ wsX11_harm := by
  unfold csX11_harm
  refine List.forall_mem_cons.mpr ⟨fun _ h => List.mem_cons.mpr (Or.inl (List.mem_singleton.mp h)), List.forall_mem_cons.mpr ⟨fun _ h => List.mem_cons_of_mem _ (List.mem_append_left _ (List.mem_append_left _ (List.mem_append_left _ (List.mem_append_left _ (List.mem_append_left _ h))))), List.forall_mem_cons.mpr ⟨fun _ h => List.mem_cons_of_mem _ (List.mem_append_left _ (List.mem_append_left _ (List.mem_append_left _ (List.mem_append_left _ (List.mem_append_right _ (List.mem_append_left _ h)))))), List.forall_mem_cons.mpr ⟨fun _ h => List.mem_cons_of_mem _ (List.mem_append_left _ (List.mem_append_left _ (List.mem_append_left _ (List.mem_append_left _ (List.mem_append_right _ (List.mem_append_right _ (List.mem_append_left _ h))))))), List.forall_mem_cons.mpr ⟨fun _ h => List.mem_cons_of_mem _ (List.mem_append_left _ (List.mem_append_left _ (List.mem_append_left _ (List.mem_append_left _ (List.mem_append_right _ (List.mem_append_right _ (List.mem_append_right _ (List.mem_append_left _ h)))))))), List.forall_mem_cons.mpr ⟨fun _ h => List.mem_cons_of_mem _ (List.mem_append_left _ (List.mem_append_left _ (List.mem_append_left _ (List.mem_append_left _ (List.mem_append_right _ (List.mem_append_right _ (List.mem_append_right _ (List.mem_append_right _ h)))))))), List.forall_mem_cons.mpr ⟨fun _ h => List.mem_cons_of_mem _ (List.mem_append_left _ (List.mem_append_left _ (List.mem_append_left _ (List.mem_append_right _ h)))), List.forall_mem_cons.mpr ⟨fun _ h => List.mem_cons_of_mem _ (List.mem_append_left _ (List.mem_append_left _ (List.mem_append_right _ h))), List.forall_mem_cons.mpr ⟨fun _ h => List.mem_cons_of_mem _ (List.mem_append_left _ (List.mem_append_right _ h)), List.forall_mem_cons.mpr ⟨fun _ h => List.mem_cons_of_mem _ (List.mem_append_right _ h), fun l h => absurd h List.not_mem_nil⟩⟩⟩⟩⟩⟩⟩⟩⟩⟩
set_option maxRecDepth 20000 in
theorem ggX11_harm_X11_tableAt : GoodIn wsX11_harm wsX11_tableAt := goodIn_r2 csX11_harm ciX11_harm _ [(1, 7), (1, 8), (1, 9), (6, 0), (6, 1), (6, 2), (6, 3), (6, 4), (6, 5), (6, 6), (6, 7), (6, 8), (6, 9), (6, 10), (6, 11), (6, 12)] rfl rfl
set_option maxRecDepth 20000 in
theorem gX11_harm_X11_tableAt : GoodIn wsX11_harm (wsV RX11 192 RX11 yX11_tableAt wsX11_tableAt) := goodIn_app (goodIn_r2 csX11_harm ciX11_harm _ [(1, 3), (1, 4), (1, 5), (1, 6)] rfl rfl) ggX11_harm_X11_tableAt
theorem daX11_harm_R44 : ([(0, .aload_n 0, 1), (1, .iload_n 1, 1), (2, .invokevirtual 192, 3), (5, .astore_n 2, 1), (6, .aload_n 2, 1), (7, .ifnull 13, 3), (20, .iconst (-1), 1), (21, .ireturn, 1)] : List (Nat × Instr × Nat)).all (fun x => decide (decode cX11_harm x.1 = .ok x.2)) = true := by decide +kernel
theorem dX11_harm_0 : decode cX11_harm 0 = .ok (.aload_n 0, 1) := dq_at daX11_harm_R44 (i := 0) rfl
theorem dX11_harm_1 : decode cX11_harm 1 = .ok (.iload_n 1, 1) := dq_at daX11_harm_R44 (i := 1) rfl
theorem dX11_harm_2 : decode cX11_harm 2 = .ok (.invokevirtual 192, 3) := dq_at daX11_harm_R44 (i := 2) rfl
theorem dX11_harm_5 : decode cX11_harm 5 = .ok (.astore_n 2, 1) := dq_at daX11_harm_R44 (i := 3) rfl
theorem dX11_harm_6 : decode cX11_harm 6 = .ok (.aload_n 2, 1) := dq_at daX11_harm_R44 (i := 4) rfl
theorem dX11_harm_7 : decode cX11_harm 7 = .ok (.ifnull 13, 3) := dq_at daX11_harm_R44 (i := 5) rfl
theorem dX11_harm_20 : decode cX11_harm 20 = .ok (.iconst (-1), 1) := dq_at daX11_harm_R44 (i := 6) rfl
theorem dX11_harm_21 : decode cX11_harm 21 = .ok (.ireturn, 1) := dq_at daX11_harm_R44 (i := 7) rfl
theorem daX11_harmed_R45 : ([(0, .aload_n 0, 1), (1, .getfield 84, 3), (4, .getfield 341, 3), (7, .iconst (-1), 1), (8, .if_icmp .ne 7, 3), (11, .iconst (-1), 1), (12, .goto 10, 3), (22, .ireturn, 1)] : List (Nat × Instr × Nat)).all (fun x => decide (decode cX11_harmed x.1 = .ok x.2)) = true := by decide +kernel
theorem dX11_harmed_0 : decode cX11_harmed 0 = .ok (.aload_n 0, 1) := dq_at daX11_harmed_R45 (i := 0) rfl
theorem dX11_harmed_1 : decode cX11_harmed 1 = .ok (.getfield 84, 3) := dq_at daX11_harmed_R45 (i := 1) rfl
theorem dX11_harmed_4 : decode cX11_harmed 4 = .ok (.getfield 341, 3) := dq_at daX11_harmed_R45 (i := 2) rfl
theorem dX11_harmed_7 : decode cX11_harmed 7 = .ok (.iconst (-1), 1) := dq_at daX11_harmed_R45 (i := 3) rfl
theorem dX11_harmed_8 : decode cX11_harmed 8 = .ok (.if_icmp .ne 7, 3) := dq_at daX11_harmed_R45 (i := 4) rfl
theorem dX11_harmed_11 : decode cX11_harmed 11 = .ok (.iconst (-1), 1) := dq_at daX11_harmed_R45 (i := 5) rfl
theorem dX11_harmed_12 : decode cX11_harmed 12 = .ok (.goto 10, 3) := dq_at daX11_harmed_R45 (i := 6) rfl
theorem dX11_harmed_22 : decode cX11_harmed 22 = .ok (.ireturn, 1) := dq_at daX11_harmed_R45 (i := 7) rfl
noncomputable def csX11_act : List (List Cond) := [[Cond.code yX11_act cX11_act 4 (some .int)], wsX11_act_r1, wsX11_act_r2, wsX110, wsX00, wsX20]
set_option maxRecDepth 20000 in
theorem ciX11_act : ∀ l ∈ csX11_act, ∀ w ∈ l, w ∈ wsX11_act := by
  unfold csX11_act
  refine List.forall_mem_cons.mpr ⟨fun _ h => List.mem_cons.mpr (Or.inl (List.mem_singleton.mp h)), List.forall_mem_cons.mpr ⟨fun _ h => List.mem_cons_of_mem _ (List.mem_append_left _ (List.mem_append_left _ (List.mem_append_left _ (List.mem_append_left _ h)))), List.forall_mem_cons.mpr ⟨fun _ h => List.mem_cons_of_mem _ (List.mem_append_left _ (List.mem_append_left _ (List.mem_append_left _ (List.mem_append_right _ h)))), List.forall_mem_cons.mpr ⟨fun _ h => List.mem_cons_of_mem _ (List.mem_append_left _ (List.mem_append_left _ (List.mem_append_right _ h))), List.forall_mem_cons.mpr ⟨fun _ h => List.mem_cons_of_mem _ (List.mem_append_left _ (List.mem_append_right _ h)), List.forall_mem_cons.mpr ⟨fun _ h => List.mem_cons_of_mem _ (List.mem_append_right _ h), fun l h => absurd h List.not_mem_nil⟩⟩⟩⟩⟩⟩
set_option maxRecDepth 20000 in
theorem ggX11_act_X2_has : GoodIn wsX11_act wsX2_has := goodIn_r2 csX11_act ciX11_act _ [(1, 9), (1, 10), (5, 0), (5, 1), (5, 2), (5, 3), (5, 4), (5, 5)] rfl rfl
set_option maxRecDepth 20000 in
theorem gX11_act_X2_has : GoodIn wsX11_act (wsV RX11 137 RX2 yX2_has wsX2_has) := goodIn_app (goodIn_r2 csX11_act ciX11_act _ [(1, 5), (1, 6), (1, 7), (1, 8)] rfl rfl) ggX11_act_X2_has
theorem daX11_act_R46 : ([(0, .aload_n 0, 1), (1, .getfield 91, 3), (4, .iconst 0, 1), (5, .putfield 344, 3), (8, .aload_n 0, 1), (9, .getfield 26, 3), (12, .iload_n 1, 1), (13, .invokevirtual 137, 3), (16, .ifCond .ne 5, 3), (19, .iconst 0, 1), (20, .ireturn, 1)] : List (Nat × Instr × Nat)).all (fun x => decide (decode cX11_act x.1 = .ok x.2)) = true := by decide +kernel
theorem dX11_act_0 : decode cX11_act 0 = .ok (.aload_n 0, 1) := dq_at daX11_act_R46 (i := 0) rfl
theorem dX11_act_1 : decode cX11_act 1 = .ok (.getfield 91, 3) := dq_at daX11_act_R46 (i := 1) rfl
theorem dX11_act_4 : decode cX11_act 4 = .ok (.iconst 0, 1) := dq_at daX11_act_R46 (i := 2) rfl
theorem dX11_act_5 : decode cX11_act 5 = .ok (.putfield 344, 3) := dq_at daX11_act_R46 (i := 3) rfl
theorem dX11_act_8 : decode cX11_act 8 = .ok (.aload_n 0, 1) := dq_at daX11_act_R46 (i := 4) rfl
theorem dX11_act_9 : decode cX11_act 9 = .ok (.getfield 26, 3) := dq_at daX11_act_R46 (i := 5) rfl
theorem dX11_act_12 : decode cX11_act 12 = .ok (.iload_n 1, 1) := dq_at daX11_act_R46 (i := 6) rfl
theorem dX11_act_13 : decode cX11_act 13 = .ok (.invokevirtual 137, 3) := dq_at daX11_act_R46 (i := 7) rfl
theorem dX11_act_16 : decode cX11_act 16 = .ok (.ifCond .ne 5, 3) := dq_at daX11_act_R46 (i := 8) rfl
theorem dX11_act_19 : decode cX11_act 19 = .ok (.iconst 0, 1) := dq_at daX11_act_R46 (i := 9) rfl
theorem dX11_act_20 : decode cX11_act 20 = .ok (.ireturn, 1) := dq_at daX11_act_R46 (i := 10) rfl
theorem daX11_trace_R47 : ([(0, .iload_n 1, 1), (1, .ifCond .lt 32, 3), (4, .iload_n 1, 1), (5, .aload_n 0, 1), (6, .getfield 91, 3), (9, .getfield 344, 3), (12, .if_icmp .ge 21, 3), (33, .iconst (-1), 1), (34, .ireturn, 1)] : List (Nat × Instr × Nat)).all (fun x => decide (decode cX11_trace x.1 = .ok x.2)) = true := by decide +kernel
theorem dX11_trace_0 : decode cX11_trace 0 = .ok (.iload_n 1, 1) := dq_at daX11_trace_R47 (i := 0) rfl
theorem dX11_trace_1 : decode cX11_trace 1 = .ok (.ifCond .lt 32, 3) := dq_at daX11_trace_R47 (i := 1) rfl
theorem dX11_trace_4 : decode cX11_trace 4 = .ok (.iload_n 1, 1) := dq_at daX11_trace_R47 (i := 2) rfl
theorem dX11_trace_5 : decode cX11_trace 5 = .ok (.aload_n 0, 1) := dq_at daX11_trace_R47 (i := 3) rfl
theorem dX11_trace_6 : decode cX11_trace 6 = .ok (.getfield 91, 3) := dq_at daX11_trace_R47 (i := 4) rfl
theorem dX11_trace_9 : decode cX11_trace 9 = .ok (.getfield 344, 3) := dq_at daX11_trace_R47 (i := 5) rfl
theorem dX11_trace_12 : decode cX11_trace 12 = .ok (.if_icmp .ge 21, 3) := dq_at daX11_trace_R47 (i := 6) rfl
theorem dX11_trace_33 : decode cX11_trace 33 = .ok (.iconst (-1), 1) := dq_at daX11_trace_R47 (i := 7) rfl
theorem dX11_trace_34 : decode cX11_trace 34 = .ok (.ireturn, 1) := dq_at daX11_trace_R47 (i := 8) rfl
noncomputable def csX11_keep : List (List Cond) := [[Cond.code yX11_keep cX11_keep 3 (some .int)], [Cond.fieldLink RX11 26 "SeatsRound" "keepers" "LSeatsRound$Keepers;", Cond.fieldLink RX11 98 "SeatsRound" "rows" "LSeatsRound$Rows;", Cond.methodLink RX11 354 yX11_isShelf, Cond.static yX11_isShelf, Cond.initialized RX11, Cond.code yX11_isShelf cX11_isShelf 1 (some .boolean), Cond.methodLink RX11 137 yX2_has, Cond.instanceMethod yX2_has, Cond.selects RX2 yX2_has yX2_has, Cond.initialized RX2, Cond.code yX2_has cX2_has 2 (some .boolean), Cond.fieldLink RX2 28 "SeatsRound$Keepers" "count" "I", Cond.methodLink RX11 357 yX7_holdKeeper, Cond.instanceMethod yX7_holdKeeper, Cond.selects RX7 yX7_holdKeeper yX7_holdKeeper, Cond.initialized RX7, Cond.code yX7_holdKeeper cX7_holdKeeper 3 none, Cond.fieldLink RX7 9 "SeatsRound$Rows" "keeper" "[I", Cond.fieldLink RX7 15 "SeatsRound$Rows" "sort" "[I", Cond.fieldLink RX7 18 "SeatsRound$Rows" "length" "[I"], wsX110, wsX20, wsX70]
set_option maxRecDepth 20000 in
theorem ciX11_keep : ∀ l ∈ csX11_keep, ∀ w ∈ l, w ∈ wsX11_keep := by
  unfold csX11_keep
  refine List.forall_mem_cons.mpr ⟨fun _ h => List.mem_cons.mpr (Or.inl (List.mem_singleton.mp h)), List.forall_mem_cons.mpr ⟨fun _ h => List.mem_cons_of_mem _ (List.mem_append_left _ (List.mem_append_left _ (List.mem_append_left _ h))), List.forall_mem_cons.mpr ⟨fun _ h => List.mem_cons_of_mem _ (List.mem_append_left _ (List.mem_append_left _ (List.mem_append_right _ h))), List.forall_mem_cons.mpr ⟨fun _ h => List.mem_cons_of_mem _ (List.mem_append_left _ (List.mem_append_right _ h)), List.forall_mem_cons.mpr ⟨fun _ h => List.mem_cons_of_mem _ (List.mem_append_right _ h), fun l h => absurd h List.not_mem_nil⟩⟩⟩⟩⟩
set_option maxRecDepth 20000 in
theorem ggX11_keep_X11_isShelf : GoodIn wsX11_keep wsX11_isShelf := goodIn_r2 csX11_keep ciX11_keep _ [(1, 5)] rfl rfl
set_option maxRecDepth 20000 in
theorem gX11_keep_X11_isShelf : GoodIn wsX11_keep (va_wsS RX11 354 yX11_isShelf wsX11_isShelf) := goodIn_app (goodIn_r2 csX11_keep ciX11_keep _ [(1, 2), (1, 3), (1, 4)] rfl rfl) ggX11_keep_X11_isShelf
set_option maxRecDepth 20000 in
theorem ggX11_keep_X2_has : GoodIn wsX11_keep wsX2_has := goodIn_r2 csX11_keep ciX11_keep _ [(1, 10), (1, 11), (3, 0), (3, 1), (3, 2), (3, 3), (3, 4), (3, 5)] rfl rfl
set_option maxRecDepth 20000 in
theorem gX11_keep_X2_has : GoodIn wsX11_keep (wsV RX11 137 RX2 yX2_has wsX2_has) := goodIn_app (goodIn_r2 csX11_keep ciX11_keep _ [(1, 6), (1, 7), (1, 8), (1, 9)] rfl rfl) ggX11_keep_X2_has
set_option maxRecDepth 20000 in
theorem ggX11_keep_X7_holdKeeper : GoodIn wsX11_keep wsX7_holdKeeper := goodIn_r2 csX11_keep ciX11_keep _ [(1, 16), (1, 17), (1, 18), (1, 19), (4, 0), (4, 1), (4, 2), (4, 3)] rfl rfl
set_option maxRecDepth 20000 in
theorem gX11_keep_X7_holdKeeper : GoodIn wsX11_keep (wsV RX11 357 RX7 yX7_holdKeeper wsX7_holdKeeper) := goodIn_app (goodIn_r2 csX11_keep ciX11_keep _ [(1, 12), (1, 13), (1, 14), (1, 15)] rfl rfl) ggX11_keep_X7_holdKeeper
theorem daX11_keep_R48 : ([(0, .iload_n 1, 1), (1, .invokestatic 354, 3), (4, .ifCond .eq 19, 3), (7, .iload_n 2, 1), (8, .iconst (-1), 1), (9, .if_icmp .eq 16, 3), (12, .aload_n 0, 1), (13, .getfield 26, 3), (16, .iload_n 2, 1), (17, .invokevirtual 137, 3), (20, .ifCond .ne 5, 3), (23, .iconst (-1), 1), (24, .ireturn, 1), (25, .aload_n 0, 1), (26, .getfield 98, 3), (29, .iload_n 1, 1), (30, .iload_n 2, 1), (31, .invokevirtual 357, 3), (34, .iconst 1, 1), (35, .ireturn, 1)] : List (Nat × Instr × Nat)).all (fun x => decide (decode cX11_keep x.1 = .ok x.2)) = true := by decide +kernel
theorem dX11_keep_0 : decode cX11_keep 0 = .ok (.iload_n 1, 1) := dq_at daX11_keep_R48 (i := 0) rfl
theorem dX11_keep_1 : decode cX11_keep 1 = .ok (.invokestatic 354, 3) := dq_at daX11_keep_R48 (i := 1) rfl
theorem dX11_keep_4 : decode cX11_keep 4 = .ok (.ifCond .eq 19, 3) := dq_at daX11_keep_R48 (i := 2) rfl
theorem dX11_keep_7 : decode cX11_keep 7 = .ok (.iload_n 2, 1) := dq_at daX11_keep_R48 (i := 3) rfl
theorem dX11_keep_8 : decode cX11_keep 8 = .ok (.iconst (-1), 1) := dq_at daX11_keep_R48 (i := 4) rfl
theorem dX11_keep_9 : decode cX11_keep 9 = .ok (.if_icmp .eq 16, 3) := dq_at daX11_keep_R48 (i := 5) rfl
theorem dX11_keep_12 : decode cX11_keep 12 = .ok (.aload_n 0, 1) := dq_at daX11_keep_R48 (i := 6) rfl
theorem dX11_keep_13 : decode cX11_keep 13 = .ok (.getfield 26, 3) := dq_at daX11_keep_R48 (i := 7) rfl
theorem dX11_keep_16 : decode cX11_keep 16 = .ok (.iload_n 2, 1) := dq_at daX11_keep_R48 (i := 8) rfl
theorem dX11_keep_17 : decode cX11_keep 17 = .ok (.invokevirtual 137, 3) := dq_at daX11_keep_R48 (i := 9) rfl
theorem dX11_keep_20 : decode cX11_keep 20 = .ok (.ifCond .ne 5, 3) := dq_at daX11_keep_R48 (i := 10) rfl
theorem dX11_keep_23 : decode cX11_keep 23 = .ok (.iconst (-1), 1) := dq_at daX11_keep_R48 (i := 11) rfl
theorem dX11_keep_24 : decode cX11_keep 24 = .ok (.ireturn, 1) := dq_at daX11_keep_R48 (i := 12) rfl
theorem dX11_keep_25 : decode cX11_keep 25 = .ok (.aload_n 0, 1) := dq_at daX11_keep_R48 (i := 13) rfl
theorem dX11_keep_26 : decode cX11_keep 26 = .ok (.getfield 98, 3) := dq_at daX11_keep_R48 (i := 14) rfl
theorem dX11_keep_29 : decode cX11_keep 29 = .ok (.iload_n 1, 1) := dq_at daX11_keep_R48 (i := 15) rfl
theorem dX11_keep_30 : decode cX11_keep 30 = .ok (.iload_n 2, 1) := dq_at daX11_keep_R48 (i := 16) rfl
theorem dX11_keep_31 : decode cX11_keep 31 = .ok (.invokevirtual 357, 3) := dq_at daX11_keep_R48 (i := 17) rfl
theorem dX11_keep_34 : decode cX11_keep 34 = .ok (.iconst 1, 1) := dq_at daX11_keep_R48 (i := 18) rfl
theorem dX11_keep_35 : decode cX11_keep 35 = .ok (.ireturn, 1) := dq_at daX11_keep_R48 (i := 19) rfl
noncomputable def csX11_row : List (List Cond) := [[Cond.code yX11_row cX11_row 4 (some .int)], [Cond.fieldLink RX11 98 "SeatsRound" "rows" "LSeatsRound$Rows;", Cond.methodLink RX11 354 yX11_isShelf, Cond.static yX11_isShelf, Cond.initialized RX11, Cond.code yX11_isShelf cX11_isShelf 1 (some .boolean), Cond.methodLink RX11 360 yX7_holdRow, Cond.instanceMethod yX7_holdRow, Cond.selects RX7 yX7_holdRow yX7_holdRow, Cond.initialized RX7, Cond.code yX7_holdRow cX7_holdRow 4 none, Cond.fieldLink RX7 9 "SeatsRound$Rows" "keeper" "[I", Cond.fieldLink RX7 15 "SeatsRound$Rows" "sort" "[I", Cond.fieldLink RX7 18 "SeatsRound$Rows" "length" "[I", Cond.fieldLink RX7 23 "SeatsRound$Rows" "elements" "[[J", Cond.methodLink RX7 32 yJ7_fill_d0a16, Cond.static yJ7_fill_d0a16, Cond.initialized RJ7, Cond.code yJ7_fill_d0a16 cJ7_fill_d0a16 5 none], wsX110, wsX70]
set_option maxRecDepth 20000 in
theorem ciX11_row : ∀ l ∈ csX11_row, ∀ w ∈ l, w ∈ wsX11_row := by
  unfold csX11_row
  refine List.forall_mem_cons.mpr ⟨fun _ h => List.mem_cons.mpr (Or.inl (List.mem_singleton.mp h)), List.forall_mem_cons.mpr ⟨fun _ h => List.mem_cons_of_mem _ (List.mem_append_left _ (List.mem_append_left _ h)), List.forall_mem_cons.mpr ⟨fun _ h => List.mem_cons_of_mem _ (List.mem_append_left _ (List.mem_append_right _ h)), List.forall_mem_cons.mpr ⟨fun _ h => List.mem_cons_of_mem _ (List.mem_append_right _ h), fun l h => absurd h List.not_mem_nil⟩⟩⟩⟩
set_option maxRecDepth 20000 in
theorem ggX11_row_X11_isShelf : GoodIn wsX11_row wsX11_isShelf := goodIn_r2 csX11_row ciX11_row _ [(1, 4)] rfl rfl
set_option maxRecDepth 20000 in
theorem gX11_row_X11_isShelf : GoodIn wsX11_row (va_wsS RX11 354 yX11_isShelf wsX11_isShelf) := goodIn_app (goodIn_r2 csX11_row ciX11_row _ [(1, 1), (1, 2), (1, 3)] rfl rfl) ggX11_row_X11_isShelf
set_option maxRecDepth 20000 in
theorem ggX11_row_X7_holdRow : GoodIn wsX11_row wsX7_holdRow := goodIn_r2 csX11_row ciX11_row _ [(1, 9), (1, 10), (1, 11), (1, 12), (1, 13), (1, 14), (1, 15), (1, 16), (1, 17), (3, 0), (3, 1), (3, 2), (3, 3)] rfl rfl
set_option maxRecDepth 20000 in
theorem gX11_row_X7_holdRow : GoodIn wsX11_row (wsV RX11 360 RX7 yX7_holdRow wsX7_holdRow) := goodIn_app (goodIn_r2 csX11_row ciX11_row _ [(1, 5), (1, 6), (1, 7), (1, 8)] rfl rfl) ggX11_row_X7_holdRow
theorem daX11_row_R49 : ([(0, .iload_n 1, 1), (1, .invokestatic 354, 3), (4, .ifCond .eq 18, 3), (7, .iload_n 2, 1), (8, .ifCond .lt 14, 3), (11, .iload_n 2, 1), (12, .iconst 4, 1), (13, .if_icmp .gt 9, 3), (16, .iload_n 3, 1), (17, .bipush 60, 2), (19, .if_icmp .le 5, 3), (22, .iconst (-1), 1), (23, .ireturn, 1), (24, .iload_n 3, 1), (25, .ifCond .ge 6, 3), (28, .bipush (-14), 2), (30, .ireturn, 1), (31, .aload_n 0, 1), (32, .getfield 98, 3), (35, .iload_n 1, 1), (36, .iload_n 2, 1), (37, .iload_n 3, 1), (38, .invokevirtual 360, 3), (41, .iconst 1, 1), (42, .ireturn, 1)] : List (Nat × Instr × Nat)).all (fun x => decide (decode cX11_row x.1 = .ok x.2)) = true := by decide +kernel
theorem dX11_row_0 : decode cX11_row 0 = .ok (.iload_n 1, 1) := dq_at daX11_row_R49 (i := 0) rfl
theorem dX11_row_1 : decode cX11_row 1 = .ok (.invokestatic 354, 3) := dq_at daX11_row_R49 (i := 1) rfl
theorem dX11_row_4 : decode cX11_row 4 = .ok (.ifCond .eq 18, 3) := dq_at daX11_row_R49 (i := 2) rfl
theorem dX11_row_7 : decode cX11_row 7 = .ok (.iload_n 2, 1) := dq_at daX11_row_R49 (i := 3) rfl
theorem dX11_row_8 : decode cX11_row 8 = .ok (.ifCond .lt 14, 3) := dq_at daX11_row_R49 (i := 4) rfl
theorem dX11_row_11 : decode cX11_row 11 = .ok (.iload_n 2, 1) := dq_at daX11_row_R49 (i := 5) rfl
theorem dX11_row_12 : decode cX11_row 12 = .ok (.iconst 4, 1) := dq_at daX11_row_R49 (i := 6) rfl
theorem dX11_row_13 : decode cX11_row 13 = .ok (.if_icmp .gt 9, 3) := dq_at daX11_row_R49 (i := 7) rfl
theorem dX11_row_16 : decode cX11_row 16 = .ok (.iload_n 3, 1) := dq_at daX11_row_R49 (i := 8) rfl
theorem dX11_row_17 : decode cX11_row 17 = .ok (.bipush 60, 2) := dq_at daX11_row_R49 (i := 9) rfl
theorem dX11_row_19 : decode cX11_row 19 = .ok (.if_icmp .le 5, 3) := dq_at daX11_row_R49 (i := 10) rfl
theorem dX11_row_22 : decode cX11_row 22 = .ok (.iconst (-1), 1) := dq_at daX11_row_R49 (i := 11) rfl
theorem dX11_row_23 : decode cX11_row 23 = .ok (.ireturn, 1) := dq_at daX11_row_R49 (i := 12) rfl
theorem dX11_row_24 : decode cX11_row 24 = .ok (.iload_n 3, 1) := dq_at daX11_row_R49 (i := 13) rfl
theorem dX11_row_25 : decode cX11_row 25 = .ok (.ifCond .ge 6, 3) := dq_at daX11_row_R49 (i := 14) rfl
theorem dX11_row_28 : decode cX11_row 28 = .ok (.bipush (-14), 2) := dq_at daX11_row_R49 (i := 15) rfl
theorem dX11_row_30 : decode cX11_row 30 = .ok (.ireturn, 1) := dq_at daX11_row_R49 (i := 16) rfl
theorem dX11_row_31 : decode cX11_row 31 = .ok (.aload_n 0, 1) := dq_at daX11_row_R49 (i := 17) rfl
theorem dX11_row_32 : decode cX11_row 32 = .ok (.getfield 98, 3) := dq_at daX11_row_R49 (i := 18) rfl
theorem dX11_row_35 : decode cX11_row 35 = .ok (.iload_n 1, 1) := dq_at daX11_row_R49 (i := 19) rfl
theorem dX11_row_36 : decode cX11_row 36 = .ok (.iload_n 2, 1) := dq_at daX11_row_R49 (i := 20) rfl
theorem dX11_row_37 : decode cX11_row 37 = .ok (.iload_n 3, 1) := dq_at daX11_row_R49 (i := 21) rfl
theorem dX11_row_38 : decode cX11_row 38 = .ok (.invokevirtual 360, 3) := dq_at daX11_row_R49 (i := 22) rfl
theorem dX11_row_41 : decode cX11_row 41 = .ok (.iconst 1, 1) := dq_at daX11_row_R49 (i := 23) rfl
theorem dX11_row_42 : decode cX11_row 42 = .ok (.ireturn, 1) := dq_at daX11_row_R49 (i := 24) rfl
noncomputable def csX11_put : List (List Cond) := [[Cond.code yX11_put cX11_put 6 (some .int)], wsX11_put_r1, wsX11_put_r2, wsX110, wsX70]
set_option maxRecDepth 20000 in
theorem ciX11_put : ∀ l ∈ csX11_put, ∀ w ∈ l, w ∈ wsX11_put := by
  unfold csX11_put
  refine List.forall_mem_cons.mpr ⟨fun _ h => List.mem_cons.mpr (Or.inl (List.mem_singleton.mp h)), List.forall_mem_cons.mpr ⟨fun _ h => List.mem_cons_of_mem _ (List.mem_append_left _ (List.mem_append_left _ (List.mem_append_left _ h))), List.forall_mem_cons.mpr ⟨fun _ h => List.mem_cons_of_mem _ (List.mem_append_left _ (List.mem_append_left _ (List.mem_append_right _ h))), List.forall_mem_cons.mpr ⟨fun _ h => List.mem_cons_of_mem _ (List.mem_append_left _ (List.mem_append_right _ h)), List.forall_mem_cons.mpr ⟨fun _ h => List.mem_cons_of_mem _ (List.mem_append_right _ h), fun l h => absurd h List.not_mem_nil⟩⟩⟩⟩⟩
set_option maxRecDepth 20000 in
theorem ggX11_put_X11_isShelf : GoodIn wsX11_put wsX11_isShelf := goodIn_r2 csX11_put ciX11_put _ [(1, 6)] rfl rfl
set_option maxRecDepth 20000 in
theorem gX11_put_X11_isShelf : GoodIn wsX11_put (va_wsS RX11 354 yX11_isShelf wsX11_isShelf) := goodIn_app (goodIn_r2 csX11_put ciX11_put _ [(1, 3), (1, 4), (1, 5)] rfl rfl) ggX11_put_X11_isShelf
set_option maxRecDepth 20000 in
theorem ggX11_put_X7_refusalAt : GoodIn wsX11_put wsX7_refusalAt := goodIn_r2 csX11_put ciX11_put _ [(1, 11), (1, 12), (1, 13), (1, 14), (1, 15), (1, 10), (1, 16), (1, 17), (1, 18), (1, 19), (1, 20), (1, 21), (1, 22), (4, 0), (4, 1), (4, 2), (4, 3)] rfl rfl
set_option maxRecDepth 20000 in
theorem gX11_put_X7_refusalAt : GoodIn wsX11_put (wsV RX11 364 RX7 yX7_refusalAt wsX7_refusalAt) := goodIn_app (goodIn_r2 csX11_put ciX11_put _ [(1, 7), (1, 8), (1, 9), (1, 10)] rfl rfl) ggX11_put_X7_refusalAt
theorem daX11_put_R50 : ([(0, .iload_n 1, 1), (1, .invokestatic 354, 3), (4, .ifCond .ne 5, 3), (7, .iconst (-1), 1), (8, .ireturn, 1), (9, .aload_n 0, 1), (10, .getfield 98, 3), (13, .iload_n 1, 1), (14, .iload_n 2, 1), (15, .invokevirtual 364, 3), (18, .istore 5, 2), (20, .iload 5, 2), (22, .ifCond .eq 6, 3), (25, .iload 5, 2), (27, .ireturn, 1)] : List (Nat × Instr × Nat)).all (fun x => decide (decode cX11_put x.1 = .ok x.2)) = true := by decide +kernel
theorem dX11_put_0 : decode cX11_put 0 = .ok (.iload_n 1, 1) := dq_at daX11_put_R50 (i := 0) rfl
theorem dX11_put_1 : decode cX11_put 1 = .ok (.invokestatic 354, 3) := dq_at daX11_put_R50 (i := 1) rfl
theorem dX11_put_4 : decode cX11_put 4 = .ok (.ifCond .ne 5, 3) := dq_at daX11_put_R50 (i := 2) rfl
theorem dX11_put_7 : decode cX11_put 7 = .ok (.iconst (-1), 1) := dq_at daX11_put_R50 (i := 3) rfl
theorem dX11_put_8 : decode cX11_put 8 = .ok (.ireturn, 1) := dq_at daX11_put_R50 (i := 4) rfl
theorem dX11_put_9 : decode cX11_put 9 = .ok (.aload_n 0, 1) := dq_at daX11_put_R50 (i := 5) rfl
theorem dX11_put_10 : decode cX11_put 10 = .ok (.getfield 98, 3) := dq_at daX11_put_R50 (i := 6) rfl
theorem dX11_put_13 : decode cX11_put 13 = .ok (.iload_n 1, 1) := dq_at daX11_put_R50 (i := 7) rfl
theorem dX11_put_14 : decode cX11_put 14 = .ok (.iload_n 2, 1) := dq_at daX11_put_R50 (i := 8) rfl
theorem dX11_put_15 : decode cX11_put 15 = .ok (.invokevirtual 364, 3) := dq_at daX11_put_R50 (i := 9) rfl
theorem dX11_put_18 : decode cX11_put 18 = .ok (.istore 5, 2) := dq_at daX11_put_R50 (i := 10) rfl
theorem dX11_put_20 : decode cX11_put 20 = .ok (.iload 5, 2) := dq_at daX11_put_R50 (i := 11) rfl
theorem dX11_put_22 : decode cX11_put 22 = .ok (.ifCond .eq 6, 3) := dq_at daX11_put_R50 (i := 12) rfl
theorem dX11_put_25 : decode cX11_put 25 = .ok (.iload 5, 2) := dq_at daX11_put_R50 (i := 13) rfl
theorem dX11_put_27 : decode cX11_put 27 = .ok (.ireturn, 1) := dq_at daX11_put_R50 (i := 14) rfl
noncomputable def csX11_element : List (List Cond) := [[Cond.code yX11_element cX11_element 3 (some .long)], [Cond.fieldLink RX11 98 "SeatsRound" "rows" "LSeatsRound$Rows;", Cond.constantLong RX11 380 (-9223372036854775808), Cond.fieldLink RX11 367 "SeatsRound$Rows" "elements" "[[J", Cond.methodLink RX11 354 yX11_isShelf, Cond.static yX11_isShelf, Cond.initialized RX11, Cond.code yX11_isShelf cX11_isShelf 1 (some .boolean), Cond.methodLink RX11 364 yX7_refusalAt, Cond.instanceMethod yX7_refusalAt, Cond.selects RX7 yX7_refusalAt yX7_refusalAt, Cond.initialized RX7, Cond.code yX7_refusalAt cX7_refusalAt 3 (some .int), Cond.fieldLink RX7 18 "SeatsRound$Rows" "length" "[I", Cond.methodLink RX7 35 yX7_isEmpty, Cond.instanceMethod yX7_isEmpty, Cond.selects RX7 yX7_isEmpty yX7_isEmpty, Cond.code yX7_isEmpty cX7_isEmpty 2 (some .boolean), Cond.fieldLink RX7 15 "SeatsRound$Rows" "sort" "[I", Cond.fieldLink RX7 9 "SeatsRound$Rows" "keeper" "[I", Cond.methodLink RX7 39 yX7_isRow, Cond.instanceMethod yX7_isRow, Cond.selects RX7 yX7_isRow yX7_isRow, Cond.code yX7_isRow cX7_isRow 2 (some .boolean)], wsX110, wsX70]
set_option maxRecDepth 20000 in
theorem ciX11_element : ∀ l ∈ csX11_element, ∀ w ∈ l, w ∈ wsX11_element := by
  unfold csX11_element
  refine List.forall_mem_cons.mpr ⟨fun _ h => List.mem_cons.mpr (Or.inl (List.mem_singleton.mp h)), List.forall_mem_cons.mpr ⟨fun _ h => List.mem_cons_of_mem _ (List.mem_append_left _ (List.mem_append_left _ h)), List.forall_mem_cons.mpr ⟨fun _ h => List.mem_cons_of_mem _ (List.mem_append_left _ (List.mem_append_right _ h)), List.forall_mem_cons.mpr ⟨fun _ h => List.mem_cons_of_mem _ (List.mem_append_right _ h), fun l h => absurd h List.not_mem_nil⟩⟩⟩⟩
set_option maxRecDepth 20000 in
theorem ggX11_element_X11_isShelf : GoodIn wsX11_element wsX11_isShelf := goodIn_r2 csX11_element ciX11_element _ [(1, 6)] rfl rfl
set_option maxRecDepth 20000 in
theorem gX11_element_X11_isShelf : GoodIn wsX11_element (va_wsS RX11 354 yX11_isShelf wsX11_isShelf) := goodIn_app (goodIn_r2 csX11_element ciX11_element _ [(1, 3), (1, 4), (1, 5)] rfl rfl) ggX11_element_X11_isShelf
set_option maxRecDepth 20000 in
theorem ggX11_element_X7_refusalAt : GoodIn wsX11_element wsX7_refusalAt := goodIn_r2 csX11_element ciX11_element _ [(1, 11), (1, 12), (1, 13), (1, 14), (1, 15), (1, 10), (1, 16), (1, 17), (1, 18), (1, 19), (1, 20), (1, 21), (1, 22), (3, 0), (3, 1), (3, 2), (3, 3)] rfl rfl
set_option maxRecDepth 20000 in
theorem gX11_element_X7_refusalAt : GoodIn wsX11_element (wsV RX11 364 RX7 yX7_refusalAt wsX7_refusalAt) := goodIn_app (goodIn_r2 csX11_element ciX11_element _ [(1, 7), (1, 8), (1, 9), (1, 10)] rfl rfl) ggX11_element_X7_refusalAt
theorem daX11_element_R51 : ([(0, .iload_n 1, 1), (1, .invokestatic 354, 3), (4, .ifCond .eq 15, 3), (7, .aload_n 0, 1), (8, .getfield 98, 3), (11, .iload_n 1, 1), (12, .iload_n 2, 1), (13, .invokevirtual 364, 3), (16, .ifCond .eq 7, 3), (19, .ldc2_w 380, 3), (22, .lreturn, 1)] : List (Nat × Instr × Nat)).all (fun x => decide (decode cX11_element x.1 = .ok x.2)) = true := by decide +kernel
theorem dX11_element_0 : decode cX11_element 0 = .ok (.iload_n 1, 1) := dq_at daX11_element_R51 (i := 0) rfl
theorem dX11_element_1 : decode cX11_element 1 = .ok (.invokestatic 354, 3) := dq_at daX11_element_R51 (i := 1) rfl
theorem dX11_element_4 : decode cX11_element 4 = .ok (.ifCond .eq 15, 3) := dq_at daX11_element_R51 (i := 2) rfl
theorem dX11_element_7 : decode cX11_element 7 = .ok (.aload_n 0, 1) := dq_at daX11_element_R51 (i := 3) rfl
theorem dX11_element_8 : decode cX11_element 8 = .ok (.getfield 98, 3) := dq_at daX11_element_R51 (i := 4) rfl
theorem dX11_element_11 : decode cX11_element 11 = .ok (.iload_n 1, 1) := dq_at daX11_element_R51 (i := 5) rfl
theorem dX11_element_12 : decode cX11_element 12 = .ok (.iload_n 2, 1) := dq_at daX11_element_R51 (i := 6) rfl
theorem dX11_element_13 : decode cX11_element 13 = .ok (.invokevirtual 364, 3) := dq_at daX11_element_R51 (i := 7) rfl
theorem dX11_element_16 : decode cX11_element 16 = .ok (.ifCond .eq 7, 3) := dq_at daX11_element_R51 (i := 8) rfl
theorem dX11_element_19 : decode cX11_element 19 = .ok (.ldc2_w 380, 3) := dq_at daX11_element_R51 (i := 9) rfl
theorem dX11_element_22 : decode cX11_element 22 = .ok (.lreturn, 1) := dq_at daX11_element_R51 (i := 10) rfl
noncomputable def csX11_shift : List (List Cond) := [[Cond.code yX11_shift cX11_shift 6 (some .int)], wsX11_shift_r1, wsX11_shift_r2, wsX110, wsX70]
set_option maxRecDepth 20000 in
theorem ciX11_shift : ∀ l ∈ csX11_shift, ∀ w ∈ l, w ∈ wsX11_shift := by
  unfold csX11_shift
  refine List.forall_mem_cons.mpr ⟨fun _ h => List.mem_cons.mpr (Or.inl (List.mem_singleton.mp h)), List.forall_mem_cons.mpr ⟨fun _ h => List.mem_cons_of_mem _ (List.mem_append_left _ (List.mem_append_left _ (List.mem_append_left _ h))), List.forall_mem_cons.mpr ⟨fun _ h => List.mem_cons_of_mem _ (List.mem_append_left _ (List.mem_append_left _ (List.mem_append_right _ h))), List.forall_mem_cons.mpr ⟨fun _ h => List.mem_cons_of_mem _ (List.mem_append_left _ (List.mem_append_right _ h)), List.forall_mem_cons.mpr ⟨fun _ h => List.mem_cons_of_mem _ (List.mem_append_right _ h), fun l h => absurd h List.not_mem_nil⟩⟩⟩⟩⟩
set_option maxRecDepth 20000 in
theorem ggX11_shift_X11_isShelf : GoodIn wsX11_shift wsX11_isShelf := goodIn_r2 csX11_shift ciX11_shift _ [(1, 10)] rfl rfl
set_option maxRecDepth 20000 in
theorem gX11_shift_X11_isShelf : GoodIn wsX11_shift (va_wsS RX11 354 yX11_isShelf wsX11_isShelf) := goodIn_app (goodIn_r2 csX11_shift ciX11_shift _ [(1, 7), (1, 8), (1, 9)] rfl rfl) ggX11_shift_X11_isShelf
set_option maxRecDepth 20000 in
theorem ggX11_shift_X7_isEmpty : GoodIn wsX11_shift wsX7_isEmpty := goodIn_r2 csX11_shift ciX11_shift _ [(1, 15), (1, 16), (1, 17), (4, 0), (4, 1), (4, 2), (4, 3)] rfl rfl
set_option maxRecDepth 20000 in
theorem gX11_shift_X7_isEmpty : GoodIn wsX11_shift (wsV RX11 382 RX7 yX7_isEmpty wsX7_isEmpty) := goodIn_app (goodIn_r2 csX11_shift ciX11_shift _ [(1, 11), (1, 12), (1, 13), (1, 14)] rfl rfl) ggX11_shift_X7_isEmpty
theorem daX11_shift_R52 : ([(0, .iload_n 1, 1), (1, .invokestatic 354, 3), (4, .ifCond .eq 10, 3), (7, .iload_n 3, 1), (8, .invokestatic 354, 3), (11, .ifCond .ne 5, 3), (14, .iconst (-1), 1), (15, .ireturn, 1), (16, .aload_n 0, 1), (17, .getfield 98, 3), (20, .iload_n 1, 1), (21, .invokevirtual 382, 3), (24, .ifCond .ne 14, 3), (38, .bipush (-11), 2), (40, .ireturn, 1)] : List (Nat × Instr × Nat)).all (fun x => decide (decode cX11_shift x.1 = .ok x.2)) = true := by decide +kernel
theorem dX11_shift_0 : decode cX11_shift 0 = .ok (.iload_n 1, 1) := dq_at daX11_shift_R52 (i := 0) rfl
theorem dX11_shift_1 : decode cX11_shift 1 = .ok (.invokestatic 354, 3) := dq_at daX11_shift_R52 (i := 1) rfl
theorem dX11_shift_4 : decode cX11_shift 4 = .ok (.ifCond .eq 10, 3) := dq_at daX11_shift_R52 (i := 2) rfl
theorem dX11_shift_7 : decode cX11_shift 7 = .ok (.iload_n 3, 1) := dq_at daX11_shift_R52 (i := 3) rfl
theorem dX11_shift_8 : decode cX11_shift 8 = .ok (.invokestatic 354, 3) := dq_at daX11_shift_R52 (i := 4) rfl
theorem dX11_shift_11 : decode cX11_shift 11 = .ok (.ifCond .ne 5, 3) := dq_at daX11_shift_R52 (i := 5) rfl
theorem dX11_shift_14 : decode cX11_shift 14 = .ok (.iconst (-1), 1) := dq_at daX11_shift_R52 (i := 6) rfl
theorem dX11_shift_15 : decode cX11_shift 15 = .ok (.ireturn, 1) := dq_at daX11_shift_R52 (i := 7) rfl
theorem dX11_shift_16 : decode cX11_shift 16 = .ok (.aload_n 0, 1) := dq_at daX11_shift_R52 (i := 8) rfl
theorem dX11_shift_17 : decode cX11_shift 17 = .ok (.getfield 98, 3) := dq_at daX11_shift_R52 (i := 9) rfl
theorem dX11_shift_20 : decode cX11_shift 20 = .ok (.iload_n 1, 1) := dq_at daX11_shift_R52 (i := 10) rfl
theorem dX11_shift_21 : decode cX11_shift 21 = .ok (.invokevirtual 382, 3) := dq_at daX11_shift_R52 (i := 11) rfl
theorem dX11_shift_24 : decode cX11_shift 24 = .ok (.ifCond .ne 14, 3) := dq_at daX11_shift_R52 (i := 12) rfl
theorem dX11_shift_38 : decode cX11_shift 38 = .ok (.bipush (-11), 2) := dq_at daX11_shift_R52 (i := 13) rfl
theorem dX11_shift_40 : decode cX11_shift 40 = .ok (.ireturn, 1) := dq_at daX11_shift_R52 (i := 14) rfl
noncomputable def csX11_taken : List (List Cond) := [[Cond.code yX11_taken cX11_taken 5 (some .int)], wsX11_taken_r1, wsX11_taken_r2, wsX110, wsX70, wsX20]
set_option maxRecDepth 20000 in
theorem ciX11_taken : ∀ l ∈ csX11_taken, ∀ w ∈ l, w ∈ wsX11_taken := by
  unfold csX11_taken
  refine List.forall_mem_cons.mpr ⟨fun _ h => List.mem_cons.mpr (Or.inl (List.mem_singleton.mp h)), List.forall_mem_cons.mpr ⟨fun _ h => List.mem_cons_of_mem _ (List.mem_append_left _ (List.mem_append_left _ (List.mem_append_left _ (List.mem_append_left _ h)))), List.forall_mem_cons.mpr ⟨fun _ h => List.mem_cons_of_mem _ (List.mem_append_left _ (List.mem_append_left _ (List.mem_append_left _ (List.mem_append_right _ h)))), List.forall_mem_cons.mpr ⟨fun _ h => List.mem_cons_of_mem _ (List.mem_append_left _ (List.mem_append_left _ (List.mem_append_right _ h))), List.forall_mem_cons.mpr ⟨fun _ h => List.mem_cons_of_mem _ (List.mem_append_left _ (List.mem_append_right _ h)), List.forall_mem_cons.mpr ⟨fun _ h => List.mem_cons_of_mem _ (List.mem_append_right _ h), fun l h => absurd h List.not_mem_nil⟩⟩⟩⟩⟩⟩
set_option maxRecDepth 20000 in
theorem ggX11_taken_X11_isShelf : GoodIn wsX11_taken wsX11_isShelf := goodIn_r2 csX11_taken ciX11_taken _ [(1, 7)] rfl rfl
set_option maxRecDepth 20000 in
theorem gX11_taken_X11_isShelf : GoodIn wsX11_taken (va_wsS RX11 354 yX11_isShelf wsX11_isShelf) := goodIn_app (goodIn_r2 csX11_taken ciX11_taken _ [(1, 4), (1, 5), (1, 6)] rfl rfl) ggX11_taken_X11_isShelf
set_option maxRecDepth 20000 in
theorem ggX11_taken_X11_isKind : GoodIn wsX11_taken wsX11_isKind := goodIn_r2 csX11_taken ciX11_taken _ [(1, 10)] rfl rfl
set_option maxRecDepth 20000 in
theorem gX11_taken_X11_isKind : GoodIn wsX11_taken (va_wsS RX11 138 yX11_isKind wsX11_isKind) := goodIn_app (goodIn_r2 csX11_taken ciX11_taken _ [(1, 8), (1, 9), (1, 6)] rfl rfl) ggX11_taken_X11_isKind
set_option maxRecDepth 20000 in
theorem ggX11_taken_X7_isEmpty : GoodIn wsX11_taken wsX7_isEmpty := goodIn_r2 csX11_taken ciX11_taken _ [(1, 15), (1, 16), (1, 17), (4, 0), (4, 1), (4, 2), (4, 3)] rfl rfl
set_option maxRecDepth 20000 in
theorem gX11_taken_X7_isEmpty : GoodIn wsX11_taken (wsV RX11 382 RX7 yX7_isEmpty wsX7_isEmpty) := goodIn_app (goodIn_r2 csX11_taken ciX11_taken _ [(1, 11), (1, 12), (1, 13), (1, 14)] rfl rfl) ggX11_taken_X7_isEmpty
theorem daX11_taken_R53 : ([(0, .iload_n 1, 1), (1, .invokestatic 354, 3), (4, .ifCond .eq 10, 3), (7, .iload_n 2, 1), (8, .invokestatic 138, 3), (11, .ifCond .ne 5, 3), (14, .iconst (-1), 1), (15, .ireturn, 1), (16, .aload_n 0, 1), (17, .getfield 98, 3), (20, .iload_n 1, 1), (21, .invokevirtual 382, 3), (24, .ifCond .eq 6, 3), (27, .bipush (-11), 2), (29, .ireturn, 1)] : List (Nat × Instr × Nat)).all (fun x => decide (decode cX11_taken x.1 = .ok x.2)) = true := by decide +kernel
theorem dX11_taken_0 : decode cX11_taken 0 = .ok (.iload_n 1, 1) := dq_at daX11_taken_R53 (i := 0) rfl
theorem dX11_taken_1 : decode cX11_taken 1 = .ok (.invokestatic 354, 3) := dq_at daX11_taken_R53 (i := 1) rfl
theorem dX11_taken_4 : decode cX11_taken 4 = .ok (.ifCond .eq 10, 3) := dq_at daX11_taken_R53 (i := 2) rfl
theorem dX11_taken_7 : decode cX11_taken 7 = .ok (.iload_n 2, 1) := dq_at daX11_taken_R53 (i := 3) rfl
theorem dX11_taken_8 : decode cX11_taken 8 = .ok (.invokestatic 138, 3) := dq_at daX11_taken_R53 (i := 4) rfl
theorem dX11_taken_11 : decode cX11_taken 11 = .ok (.ifCond .ne 5, 3) := dq_at daX11_taken_R53 (i := 5) rfl
theorem dX11_taken_14 : decode cX11_taken 14 = .ok (.iconst (-1), 1) := dq_at daX11_taken_R53 (i := 6) rfl
theorem dX11_taken_15 : decode cX11_taken 15 = .ok (.ireturn, 1) := dq_at daX11_taken_R53 (i := 7) rfl
theorem dX11_taken_16 : decode cX11_taken 16 = .ok (.aload_n 0, 1) := dq_at daX11_taken_R53 (i := 8) rfl
theorem dX11_taken_17 : decode cX11_taken 17 = .ok (.getfield 98, 3) := dq_at daX11_taken_R53 (i := 9) rfl
theorem dX11_taken_20 : decode cX11_taken 20 = .ok (.iload_n 1, 1) := dq_at daX11_taken_R53 (i := 10) rfl
theorem dX11_taken_21 : decode cX11_taken 21 = .ok (.invokevirtual 382, 3) := dq_at daX11_taken_R53 (i := 11) rfl
theorem dX11_taken_24 : decode cX11_taken 24 = .ok (.ifCond .eq 6, 3) := dq_at daX11_taken_R53 (i := 12) rfl
theorem dX11_taken_27 : decode cX11_taken 27 = .ok (.bipush (-11), 2) := dq_at daX11_taken_R53 (i := 13) rfl
theorem dX11_taken_29 : decode cX11_taken 29 = .ok (.ireturn, 1) := dq_at daX11_taken_R53 (i := 14) rfl
noncomputable def csX11_names : List (List Cond) := [[Cond.code yX11_names cX11_names 4 (some .int)], wsX11_names_r1, wsX11_names_r2, wsX110, wsX70, wsX40]
set_option maxRecDepth 20000 in
theorem ciX11_names : ∀ l ∈ csX11_names, ∀ w ∈ l, w ∈ wsX11_names := by
  unfold csX11_names
  refine List.forall_mem_cons.mpr ⟨fun _ h => List.mem_cons.mpr (Or.inl (List.mem_singleton.mp h)), List.forall_mem_cons.mpr ⟨fun _ h => List.mem_cons_of_mem _ (List.mem_append_left _ (List.mem_append_left _ (List.mem_append_left _ (List.mem_append_left _ h)))), List.forall_mem_cons.mpr ⟨fun _ h => List.mem_cons_of_mem _ (List.mem_append_left _ (List.mem_append_left _ (List.mem_append_left _ (List.mem_append_right _ h)))), List.forall_mem_cons.mpr ⟨fun _ h => List.mem_cons_of_mem _ (List.mem_append_left _ (List.mem_append_left _ (List.mem_append_right _ h))), List.forall_mem_cons.mpr ⟨fun _ h => List.mem_cons_of_mem _ (List.mem_append_left _ (List.mem_append_right _ h)), List.forall_mem_cons.mpr ⟨fun _ h => List.mem_cons_of_mem _ (List.mem_append_right _ h), fun l h => absurd h List.not_mem_nil⟩⟩⟩⟩⟩⟩
set_option maxRecDepth 20000 in
theorem ggX11_names_X11_isShelf : GoodIn wsX11_names wsX11_isShelf := goodIn_r2 csX11_names ciX11_names _ [(1, 8)] rfl rfl
set_option maxRecDepth 20000 in
theorem gX11_names_X11_isShelf : GoodIn wsX11_names (va_wsS RX11 354 yX11_isShelf wsX11_isShelf) := goodIn_app (goodIn_r2 csX11_names ciX11_names _ [(1, 5), (1, 6), (1, 7)] rfl rfl) ggX11_names_X11_isShelf
set_option maxRecDepth 20000 in
theorem ggX11_names_X7_isEmpty : GoodIn wsX11_names wsX7_isEmpty := goodIn_r2 csX11_names ciX11_names _ [(1, 13), (1, 14), (1, 15), (4, 0), (4, 1), (4, 2), (4, 3)] rfl rfl
set_option maxRecDepth 20000 in
theorem gX11_names_X7_isEmpty : GoodIn wsX11_names (wsV RX11 382 RX7 yX7_isEmpty wsX7_isEmpty) := goodIn_app (goodIn_r2 csX11_names ciX11_names _ [(1, 9), (1, 10), (1, 11), (1, 12)] rfl rfl) ggX11_names_X7_isEmpty
theorem daX11_names_R54 : ([(0, .iload_n 1, 1), (1, .invokestatic 354, 3), (4, .ifCond .eq 14, 3), (7, .iload_n 3, 1), (8, .iconst 1, 1), (9, .if_icmp .lt 9, 3), (12, .iload_n 3, 1), (13, .bipush 20, 2), (15, .if_icmp .le 5, 3), (18, .iconst (-1), 1), (19, .ireturn, 1), (20, .aload_n 0, 1), (21, .getfield 98, 3), (24, .iload_n 1, 1), (25, .invokevirtual 382, 3), (28, .ifCond .eq 5, 3), (31, .iconst 0, 1), (32, .ireturn, 1)] : List (Nat × Instr × Nat)).all (fun x => decide (decode cX11_names x.1 = .ok x.2)) = true := by decide +kernel
theorem dX11_names_0 : decode cX11_names 0 = .ok (.iload_n 1, 1) := dq_at daX11_names_R54 (i := 0) rfl
theorem dX11_names_1 : decode cX11_names 1 = .ok (.invokestatic 354, 3) := dq_at daX11_names_R54 (i := 1) rfl
theorem dX11_names_4 : decode cX11_names 4 = .ok (.ifCond .eq 14, 3) := dq_at daX11_names_R54 (i := 2) rfl
theorem dX11_names_7 : decode cX11_names 7 = .ok (.iload_n 3, 1) := dq_at daX11_names_R54 (i := 3) rfl
theorem dX11_names_8 : decode cX11_names 8 = .ok (.iconst 1, 1) := dq_at daX11_names_R54 (i := 4) rfl
theorem dX11_names_9 : decode cX11_names 9 = .ok (.if_icmp .lt 9, 3) := dq_at daX11_names_R54 (i := 5) rfl
theorem dX11_names_12 : decode cX11_names 12 = .ok (.iload_n 3, 1) := dq_at daX11_names_R54 (i := 6) rfl
theorem dX11_names_13 : decode cX11_names 13 = .ok (.bipush 20, 2) := dq_at daX11_names_R54 (i := 7) rfl
theorem dX11_names_15 : decode cX11_names 15 = .ok (.if_icmp .le 5, 3) := dq_at daX11_names_R54 (i := 8) rfl
theorem dX11_names_18 : decode cX11_names 18 = .ok (.iconst (-1), 1) := dq_at daX11_names_R54 (i := 9) rfl
theorem dX11_names_19 : decode cX11_names 19 = .ok (.ireturn, 1) := dq_at daX11_names_R54 (i := 10) rfl
theorem dX11_names_20 : decode cX11_names 20 = .ok (.aload_n 0, 1) := dq_at daX11_names_R54 (i := 11) rfl
theorem dX11_names_21 : decode cX11_names 21 = .ok (.getfield 98, 3) := dq_at daX11_names_R54 (i := 12) rfl
theorem dX11_names_24 : decode cX11_names 24 = .ok (.iload_n 1, 1) := dq_at daX11_names_R54 (i := 13) rfl
theorem dX11_names_25 : decode cX11_names 25 = .ok (.invokevirtual 382, 3) := dq_at daX11_names_R54 (i := 14) rfl
theorem dX11_names_28 : decode cX11_names 28 = .ok (.ifCond .eq 5, 3) := dq_at daX11_names_R54 (i := 15) rfl
theorem dX11_names_31 : decode cX11_names 31 = .ok (.iconst 0, 1) := dq_at daX11_names_R54 (i := 16) rfl
theorem dX11_names_32 : decode cX11_names 32 = .ok (.ireturn, 1) := dq_at daX11_names_R54 (i := 17) rfl
noncomputable def csX11_count : List (List Cond) := [[Cond.code yX11_count cX11_count 2 (some .int)], wsX11_count_r1, wsX11_count_r2, wsX110, wsX40, wsX20, wsX90, wsX60, wsX00]
set_option maxRecDepth 20000 in
theorem ciX11_count : ∀ l ∈ csX11_count, ∀ w ∈ l, w ∈ wsX11_count := by
  unfold csX11_count
  refine List.forall_mem_cons.mpr ⟨fun _ h => List.mem_cons.mpr (Or.inl (List.mem_singleton.mp h)), List.forall_mem_cons.mpr ⟨fun _ h => List.mem_cons_of_mem _ (List.mem_append_left _ (List.mem_append_left _ (List.mem_append_left _ (List.mem_append_left _ (List.mem_append_left _ (List.mem_append_left _ (List.mem_append_left _ h))))))), List.forall_mem_cons.mpr ⟨fun _ h => List.mem_cons_of_mem _ (List.mem_append_left _ (List.mem_append_left _ (List.mem_append_left _ (List.mem_append_left _ (List.mem_append_left _ (List.mem_append_left _ (List.mem_append_right _ h))))))), List.forall_mem_cons.mpr ⟨fun _ h => List.mem_cons_of_mem _ (List.mem_append_left _ (List.mem_append_left _ (List.mem_append_left _ (List.mem_append_left _ (List.mem_append_left _ (List.mem_append_right _ h)))))), List.forall_mem_cons.mpr ⟨fun _ h => List.mem_cons_of_mem _ (List.mem_append_left _ (List.mem_append_left _ (List.mem_append_left _ (List.mem_append_left _ (List.mem_append_right _ h))))), List.forall_mem_cons.mpr ⟨fun _ h => List.mem_cons_of_mem _ (List.mem_append_left _ (List.mem_append_left _ (List.mem_append_left _ (List.mem_append_right _ h)))), List.forall_mem_cons.mpr ⟨fun _ h => List.mem_cons_of_mem _ (List.mem_append_left _ (List.mem_append_left _ (List.mem_append_right _ h))), List.forall_mem_cons.mpr ⟨fun _ h => List.mem_cons_of_mem _ (List.mem_append_left _ (List.mem_append_right _ h)), List.forall_mem_cons.mpr ⟨fun _ h => List.mem_cons_of_mem _ (List.mem_append_right _ h), fun l h => absurd h List.not_mem_nil⟩⟩⟩⟩⟩⟩⟩⟩⟩
set_option maxRecDepth 20000 in
theorem ggX11_count_X6_allCopies : GoodIn wsX11_count wsX6_allCopies := goodIn_r2 csX11_count ciX11_count _ [(1, 15), (1, 16), (1, 17), (1, 18), (1, 19), (1, 20), (1, 14), (1, 21), (1, 22), (1, 23), (2, 0), (2, 1), (7, 0), (7, 1), (7, 2), (7, 3), (7, 4), (7, 5), (7, 6), (7, 7), (7, 8), (7, 9), (7, 10), (7, 11), (5, 0), (5, 1), (5, 2), (5, 3), (5, 4), (5, 5)] rfl rfl
set_option maxRecDepth 20000 in
theorem gX11_count_X6_allCopies : GoodIn wsX11_count (wsV RX11 411 RX6 yX6_allCopies wsX6_allCopies) := goodIn_app (goodIn_r2 csX11_count ciX11_count _ [(1, 11), (1, 12), (1, 13), (1, 14)] rfl rfl) ggX11_count_X6_allCopies
set_option maxRecDepth 20000 in
theorem ggX11_count_X6_allKept : GoodIn wsX11_count wsX6_allKept := goodIn_r2 csX11_count ciX11_count _ [(2, 5), (1, 16), (1, 17), (2, 6), (2, 7), (2, 8), (1, 14), (2, 9), (2, 10), (1, 23), (2, 0), (2, 1), (7, 0), (7, 1), (7, 2), (7, 3), (7, 4), (7, 5), (7, 6), (7, 7), (7, 8), (7, 9), (7, 10), (7, 11), (5, 0), (5, 1), (5, 2), (5, 3), (5, 4), (5, 5)] rfl rfl
set_option maxRecDepth 20000 in
theorem gX11_count_X6_allKept : GoodIn wsX11_count (wsV RX11 414 RX6 yX6_allKept wsX6_allKept) := goodIn_app (goodIn_r2 csX11_count ciX11_count _ [(2, 2), (2, 3), (2, 4), (1, 14)] rfl rfl) ggX11_count_X6_allKept
theorem daX11_count_R55 : ([(0, .iload_n 1, 1), (1, .tableswitch 108 0 7 #[47, 55, 63, 68, 76, 84, 92, 100], 47), (48, .aload_n 0, 1), (49, .getfield 19, 3), (52, .getfield 117, 3), (55, .ireturn, 1), (56, .aload_n 0, 1), (57, .getfield 26, 3), (60, .getfield 134, 3), (63, .ireturn, 1), (64, .aload_n 0, 1), (65, .getfield 52, 3), (68, .ireturn, 1), (69, .aload_n 0, 1), (70, .getfield 10, 3), (73, .getfield 102, 3), (76, .ireturn, 1), (77, .aload_n 0, 1), (78, .getfield 66, 3), (81, .invokevirtual 411, 3), (84, .ireturn, 1), (85, .aload_n 0, 1), (86, .getfield 66, 3), (89, .invokevirtual 414, 3), (92, .ireturn, 1), (93, .aload_n 0, 1), (94, .getfield 66, 3), (97, .getfield 417, 3), (100, .ireturn, 1), (101, .aload_n 0, 1), (102, .getfield 91, 3), (105, .getfield 344, 3), (108, .ireturn, 1), (109, .iconst (-1), 1), (110, .ireturn, 1)] : List (Nat × Instr × Nat)).all (fun x => decide (decode cX11_count x.1 = .ok x.2)) = true := by decide +kernel
theorem dX11_count_0 : decode cX11_count 0 = .ok (.iload_n 1, 1) := dq_at daX11_count_R55 (i := 0) rfl
theorem dX11_count_1 : decode cX11_count 1 = .ok (.tableswitch 108 0 7 #[47, 55, 63, 68, 76, 84, 92, 100], 47) := dq_at daX11_count_R55 (i := 1) rfl
theorem dX11_count_48 : decode cX11_count 48 = .ok (.aload_n 0, 1) := dq_at daX11_count_R55 (i := 2) rfl
theorem dX11_count_49 : decode cX11_count 49 = .ok (.getfield 19, 3) := dq_at daX11_count_R55 (i := 3) rfl
theorem dX11_count_52 : decode cX11_count 52 = .ok (.getfield 117, 3) := dq_at daX11_count_R55 (i := 4) rfl
theorem dX11_count_55 : decode cX11_count 55 = .ok (.ireturn, 1) := dq_at daX11_count_R55 (i := 5) rfl
theorem dX11_count_56 : decode cX11_count 56 = .ok (.aload_n 0, 1) := dq_at daX11_count_R55 (i := 6) rfl
theorem dX11_count_57 : decode cX11_count 57 = .ok (.getfield 26, 3) := dq_at daX11_count_R55 (i := 7) rfl
theorem dX11_count_60 : decode cX11_count 60 = .ok (.getfield 134, 3) := dq_at daX11_count_R55 (i := 8) rfl
theorem dX11_count_63 : decode cX11_count 63 = .ok (.ireturn, 1) := dq_at daX11_count_R55 (i := 9) rfl
theorem dX11_count_64 : decode cX11_count 64 = .ok (.aload_n 0, 1) := dq_at daX11_count_R55 (i := 10) rfl
theorem dX11_count_65 : decode cX11_count 65 = .ok (.getfield 52, 3) := dq_at daX11_count_R55 (i := 11) rfl
theorem dX11_count_68 : decode cX11_count 68 = .ok (.ireturn, 1) := dq_at daX11_count_R55 (i := 12) rfl
theorem dX11_count_69 : decode cX11_count 69 = .ok (.aload_n 0, 1) := dq_at daX11_count_R55 (i := 13) rfl
theorem dX11_count_70 : decode cX11_count 70 = .ok (.getfield 10, 3) := dq_at daX11_count_R55 (i := 14) rfl
theorem dX11_count_73 : decode cX11_count 73 = .ok (.getfield 102, 3) := dq_at daX11_count_R55 (i := 15) rfl
theorem dX11_count_76 : decode cX11_count 76 = .ok (.ireturn, 1) := dq_at daX11_count_R55 (i := 16) rfl
theorem dX11_count_77 : decode cX11_count 77 = .ok (.aload_n 0, 1) := dq_at daX11_count_R55 (i := 17) rfl
theorem dX11_count_78 : decode cX11_count 78 = .ok (.getfield 66, 3) := dq_at daX11_count_R55 (i := 18) rfl
theorem dX11_count_81 : decode cX11_count 81 = .ok (.invokevirtual 411, 3) := dq_at daX11_count_R55 (i := 19) rfl
theorem dX11_count_84 : decode cX11_count 84 = .ok (.ireturn, 1) := dq_at daX11_count_R55 (i := 20) rfl
theorem dX11_count_85 : decode cX11_count 85 = .ok (.aload_n 0, 1) := dq_at daX11_count_R55 (i := 21) rfl
theorem dX11_count_86 : decode cX11_count 86 = .ok (.getfield 66, 3) := dq_at daX11_count_R55 (i := 22) rfl
theorem dX11_count_89 : decode cX11_count 89 = .ok (.invokevirtual 414, 3) := dq_at daX11_count_R55 (i := 23) rfl
theorem dX11_count_92 : decode cX11_count 92 = .ok (.ireturn, 1) := dq_at daX11_count_R55 (i := 24) rfl
theorem dX11_count_93 : decode cX11_count 93 = .ok (.aload_n 0, 1) := dq_at daX11_count_R55 (i := 25) rfl
theorem dX11_count_94 : decode cX11_count 94 = .ok (.getfield 66, 3) := dq_at daX11_count_R55 (i := 26) rfl
theorem dX11_count_97 : decode cX11_count 97 = .ok (.getfield 417, 3) := dq_at daX11_count_R55 (i := 27) rfl
theorem dX11_count_100 : decode cX11_count 100 = .ok (.ireturn, 1) := dq_at daX11_count_R55 (i := 28) rfl
theorem dX11_count_101 : decode cX11_count 101 = .ok (.aload_n 0, 1) := dq_at daX11_count_R55 (i := 29) rfl
theorem dX11_count_102 : decode cX11_count 102 = .ok (.getfield 91, 3) := dq_at daX11_count_R55 (i := 30) rfl
theorem dX11_count_105 : decode cX11_count 105 = .ok (.getfield 344, 3) := dq_at daX11_count_R55 (i := 31) rfl
theorem dX11_count_108 : decode cX11_count 108 = .ok (.ireturn, 1) := dq_at daX11_count_R55 (i := 32) rfl
theorem dX11_count_109 : decode cX11_count 109 = .ok (.iconst (-1), 1) := dq_at daX11_count_R55 (i := 33) rfl
theorem dX11_count_110 : decode cX11_count 110 = .ok (.ireturn, 1) := dq_at daX11_count_R55 (i := 34) rfl
theorem daX11_isShelf_R56 : ([(0, .iload_n 0, 1), (1, .ifCond .lt 13, 3), (4, .iload_n 0, 1), (5, .bipush 6, 2), (7, .if_icmp .ge 7, 3), (10, .iconst 1, 1), (11, .goto 4, 3), (14, .iconst 0, 1), (15, .ireturn, 1)] : List (Nat × Instr × Nat)).all (fun x => decide (decode cX11_isShelf x.1 = .ok x.2)) = true := by decide +kernel
theorem dX11_isShelf_0 : decode cX11_isShelf 0 = .ok (.iload_n 0, 1) := dq_at daX11_isShelf_R56 (i := 0) rfl
theorem dX11_isShelf_1 : decode cX11_isShelf 1 = .ok (.ifCond .lt 13, 3) := dq_at daX11_isShelf_R56 (i := 1) rfl
theorem dX11_isShelf_4 : decode cX11_isShelf 4 = .ok (.iload_n 0, 1) := dq_at daX11_isShelf_R56 (i := 2) rfl
theorem dX11_isShelf_5 : decode cX11_isShelf 5 = .ok (.bipush 6, 2) := dq_at daX11_isShelf_R56 (i := 3) rfl
theorem dX11_isShelf_7 : decode cX11_isShelf 7 = .ok (.if_icmp .ge 7, 3) := dq_at daX11_isShelf_R56 (i := 4) rfl
theorem dX11_isShelf_10 : decode cX11_isShelf 10 = .ok (.iconst 1, 1) := dq_at daX11_isShelf_R56 (i := 5) rfl
theorem dX11_isShelf_11 : decode cX11_isShelf 11 = .ok (.goto 4, 3) := dq_at daX11_isShelf_R56 (i := 6) rfl
theorem dX11_isShelf_14 : decode cX11_isShelf 14 = .ok (.iconst 0, 1) := dq_at daX11_isShelf_R56 (i := 7) rfl
theorem dX11_isShelf_15 : decode cX11_isShelf 15 = .ok (.ireturn, 1) := dq_at daX11_isShelf_R56 (i := 8) rfl
theorem daX12_init_R57 : ([(0, .aload_n 0, 1), (1, .invokespecial 1, 3), (4, .aload_n 0, 1), (5, .bipush 40, 2), (7, .newarray .int, 2), (9, .putfield 7, 3), (12, .aload_n 0, 1), (13, .sipush 240, 3), (16, .newarray .int, 2), (18, .putfield 13, 3), (21, .aload_n 0, 1), (22, .bipush 12, 2), (24, .newarray .int, 2), (26, .putfield 16, 3), (29, .aload_n 0, 1), (30, .bipush 12, 2), (32, .newarray .int, 2), (34, .putfield 19, 3), (37, .aload_n 0, 1), (38, .bipush 12, 2), (40, .newarray .int, 2), (42, .putfield 22, 3), (45, .aload_n 0, 1), (46, .bipush 12, 2), (48, .newarray .int, 2), (50, .dup, 1), (51, .iconst 0, 1), (52, .iconst (-1), 1), (53, .iastore, 1), (54, .dup, 1), (55, .iconst 1, 1), (56, .iconst (-1), 1), (57, .iastore, 1), (58, .dup, 1), (59, .iconst 2, 1), (60, .iconst (-1), 1), (61, .iastore, 1), (62, .dup, 1), (63, .iconst 3, 1), (64, .iconst (-1), 1), (65, .iastore, 1), (66, .dup, 1), (67, .iconst 4, 1), (68, .iconst (-1), 1), (69, .iastore, 1), (70, .dup, 1), (71, .iconst 5, 1), (72, .iconst (-1), 1), (73, .iastore, 1), (74, .dup, 1), (75, .bipush 6, 2), (77, .iconst (-1), 1), (78, .iastore, 1), (79, .dup, 1), (80, .bipush 7, 2), (82, .iconst (-1), 1), (83, .iastore, 1), (84, .dup, 1), (85, .bipush 8, 2), (87, .iconst (-1), 1)] : List (Nat × Instr × Nat)).all (fun x => decide (decode cX12_init x.1 = .ok x.2)) = true := by decide +kernel
theorem dX12_init_0 : decode cX12_init 0 = .ok (.aload_n 0, 1) := dq_at daX12_init_R57 (i := 0) rfl
theorem dX12_init_1 : decode cX12_init 1 = .ok (.invokespecial 1, 3) := dq_at daX12_init_R57 (i := 1) rfl
theorem dX12_init_4 : decode cX12_init 4 = .ok (.aload_n 0, 1) := dq_at daX12_init_R57 (i := 2) rfl
theorem dX12_init_5 : decode cX12_init 5 = .ok (.bipush 40, 2) := dq_at daX12_init_R57 (i := 3) rfl
theorem dX12_init_7 : decode cX12_init 7 = .ok (.newarray .int, 2) := dq_at daX12_init_R57 (i := 4) rfl
theorem dX12_init_9 : decode cX12_init 9 = .ok (.putfield 7, 3) := dq_at daX12_init_R57 (i := 5) rfl
theorem dX12_init_12 : decode cX12_init 12 = .ok (.aload_n 0, 1) := dq_at daX12_init_R57 (i := 6) rfl
theorem dX12_init_13 : decode cX12_init 13 = .ok (.sipush 240, 3) := dq_at daX12_init_R57 (i := 7) rfl
theorem dX12_init_16 : decode cX12_init 16 = .ok (.newarray .int, 2) := dq_at daX12_init_R57 (i := 8) rfl
theorem dX12_init_18 : decode cX12_init 18 = .ok (.putfield 13, 3) := dq_at daX12_init_R57 (i := 9) rfl
theorem dX12_init_21 : decode cX12_init 21 = .ok (.aload_n 0, 1) := dq_at daX12_init_R57 (i := 10) rfl
theorem dX12_init_22 : decode cX12_init 22 = .ok (.bipush 12, 2) := dq_at daX12_init_R57 (i := 11) rfl
theorem dX12_init_24 : decode cX12_init 24 = .ok (.newarray .int, 2) := dq_at daX12_init_R57 (i := 12) rfl
theorem dX12_init_26 : decode cX12_init 26 = .ok (.putfield 16, 3) := dq_at daX12_init_R57 (i := 13) rfl
theorem dX12_init_29 : decode cX12_init 29 = .ok (.aload_n 0, 1) := dq_at daX12_init_R57 (i := 14) rfl
theorem dX12_init_30 : decode cX12_init 30 = .ok (.bipush 12, 2) := dq_at daX12_init_R57 (i := 15) rfl
theorem dX12_init_32 : decode cX12_init 32 = .ok (.newarray .int, 2) := dq_at daX12_init_R57 (i := 16) rfl
theorem dX12_init_34 : decode cX12_init 34 = .ok (.putfield 19, 3) := dq_at daX12_init_R57 (i := 17) rfl
theorem dX12_init_37 : decode cX12_init 37 = .ok (.aload_n 0, 1) := dq_at daX12_init_R57 (i := 18) rfl
theorem dX12_init_38 : decode cX12_init 38 = .ok (.bipush 12, 2) := dq_at daX12_init_R57 (i := 19) rfl
theorem dX12_init_40 : decode cX12_init 40 = .ok (.newarray .int, 2) := dq_at daX12_init_R57 (i := 20) rfl
theorem dX12_init_42 : decode cX12_init 42 = .ok (.putfield 22, 3) := dq_at daX12_init_R57 (i := 21) rfl
theorem dX12_init_45 : decode cX12_init 45 = .ok (.aload_n 0, 1) := dq_at daX12_init_R57 (i := 22) rfl
theorem dX12_init_46 : decode cX12_init 46 = .ok (.bipush 12, 2) := dq_at daX12_init_R57 (i := 23) rfl
theorem dX12_init_48 : decode cX12_init 48 = .ok (.newarray .int, 2) := dq_at daX12_init_R57 (i := 24) rfl
theorem dX12_init_50 : decode cX12_init 50 = .ok (.dup, 1) := dq_at daX12_init_R57 (i := 25) rfl
theorem dX12_init_51 : decode cX12_init 51 = .ok (.iconst 0, 1) := dq_at daX12_init_R57 (i := 26) rfl
theorem dX12_init_52 : decode cX12_init 52 = .ok (.iconst (-1), 1) := dq_at daX12_init_R57 (i := 27) rfl
theorem dX12_init_53 : decode cX12_init 53 = .ok (.iastore, 1) := dq_at daX12_init_R57 (i := 28) rfl
theorem dX12_init_54 : decode cX12_init 54 = .ok (.dup, 1) := dq_at daX12_init_R57 (i := 29) rfl
theorem dX12_init_55 : decode cX12_init 55 = .ok (.iconst 1, 1) := dq_at daX12_init_R57 (i := 30) rfl
theorem dX12_init_56 : decode cX12_init 56 = .ok (.iconst (-1), 1) := dq_at daX12_init_R57 (i := 31) rfl
theorem dX12_init_57 : decode cX12_init 57 = .ok (.iastore, 1) := dq_at daX12_init_R57 (i := 32) rfl
theorem dX12_init_58 : decode cX12_init 58 = .ok (.dup, 1) := dq_at daX12_init_R57 (i := 33) rfl
theorem dX12_init_59 : decode cX12_init 59 = .ok (.iconst 2, 1) := dq_at daX12_init_R57 (i := 34) rfl
theorem dX12_init_60 : decode cX12_init 60 = .ok (.iconst (-1), 1) := dq_at daX12_init_R57 (i := 35) rfl
theorem dX12_init_61 : decode cX12_init 61 = .ok (.iastore, 1) := dq_at daX12_init_R57 (i := 36) rfl
theorem dX12_init_62 : decode cX12_init 62 = .ok (.dup, 1) := dq_at daX12_init_R57 (i := 37) rfl
theorem dX12_init_63 : decode cX12_init 63 = .ok (.iconst 3, 1) := dq_at daX12_init_R57 (i := 38) rfl
theorem dX12_init_64 : decode cX12_init 64 = .ok (.iconst (-1), 1) := dq_at daX12_init_R57 (i := 39) rfl
theorem dX12_init_65 : decode cX12_init 65 = .ok (.iastore, 1) := dq_at daX12_init_R57 (i := 40) rfl
theorem dX12_init_66 : decode cX12_init 66 = .ok (.dup, 1) := dq_at daX12_init_R57 (i := 41) rfl
theorem dX12_init_67 : decode cX12_init 67 = .ok (.iconst 4, 1) := dq_at daX12_init_R57 (i := 42) rfl
theorem dX12_init_68 : decode cX12_init 68 = .ok (.iconst (-1), 1) := dq_at daX12_init_R57 (i := 43) rfl
theorem dX12_init_69 : decode cX12_init 69 = .ok (.iastore, 1) := dq_at daX12_init_R57 (i := 44) rfl
theorem dX12_init_70 : decode cX12_init 70 = .ok (.dup, 1) := dq_at daX12_init_R57 (i := 45) rfl
theorem dX12_init_71 : decode cX12_init 71 = .ok (.iconst 5, 1) := dq_at daX12_init_R57 (i := 46) rfl
theorem dX12_init_72 : decode cX12_init 72 = .ok (.iconst (-1), 1) := dq_at daX12_init_R57 (i := 47) rfl
theorem dX12_init_73 : decode cX12_init 73 = .ok (.iastore, 1) := dq_at daX12_init_R57 (i := 48) rfl
theorem dX12_init_74 : decode cX12_init 74 = .ok (.dup, 1) := dq_at daX12_init_R57 (i := 49) rfl
theorem dX12_init_75 : decode cX12_init 75 = .ok (.bipush 6, 2) := dq_at daX12_init_R57 (i := 50) rfl
theorem dX12_init_77 : decode cX12_init 77 = .ok (.iconst (-1), 1) := dq_at daX12_init_R57 (i := 51) rfl
theorem dX12_init_78 : decode cX12_init 78 = .ok (.iastore, 1) := dq_at daX12_init_R57 (i := 52) rfl
theorem dX12_init_79 : decode cX12_init 79 = .ok (.dup, 1) := dq_at daX12_init_R57 (i := 53) rfl
theorem dX12_init_80 : decode cX12_init 80 = .ok (.bipush 7, 2) := dq_at daX12_init_R57 (i := 54) rfl
theorem dX12_init_82 : decode cX12_init 82 = .ok (.iconst (-1), 1) := dq_at daX12_init_R57 (i := 55) rfl
theorem dX12_init_83 : decode cX12_init 83 = .ok (.iastore, 1) := dq_at daX12_init_R57 (i := 56) rfl
theorem dX12_init_84 : decode cX12_init 84 = .ok (.dup, 1) := dq_at daX12_init_R57 (i := 57) rfl
theorem dX12_init_85 : decode cX12_init 85 = .ok (.bipush 8, 2) := dq_at daX12_init_R57 (i := 58) rfl
theorem dX12_init_87 : decode cX12_init 87 = .ok (.iconst (-1), 1) := dq_at daX12_init_R57 (i := 59) rfl
theorem daX12_init_R58 : ([(88, .iastore, 1), (89, .dup, 1), (90, .bipush 9, 2), (92, .iconst (-1), 1), (93, .iastore, 1), (94, .dup, 1), (95, .bipush 10, 2), (97, .iconst (-1), 1), (98, .iastore, 1), (99, .dup, 1), (100, .bipush 11, 2), (102, .iconst (-1), 1), (103, .iastore, 1), (104, .putfield 25, 3), (107, .aload_n 0, 1), (108, .bipush 12, 2), (110, .newarray .boolean, 2), (112, .putfield 28, 3), (115, .aload_n 0, 1), (116, .bipush 11, 2), (118, .newarray .int, 2), (120, .putfield 32, 3), (123, .aload_n 0, 1), (124, .bipush 11, 2), (126, .newarray .int, 2), (128, .putfield 35, 3), (131, .aload_n 0, 1), (132, .bipush 11, 2), (134, .newarray .int, 2), (136, .putfield 38, 3), (139, .aload_n 0, 1), (140, .bipush 11, 2), (142, .newarray .int, 2), (144, .putfield 41, 3), (147, .aload_n 0, 1), (148, .bipush 11, 2), (150, .newarray .int, 2), (152, .putfield 44, 3), (155, .aload_n 0, 1), (156, .bipush 11, 2), (158, .newarray .int, 2), (160, .putfield 47, 3), (163, .aload_n 0, 1), (164, .sipush 880, 3), (167, .newarray .int, 2), (169, .putfield 50, 3), (172, .aload_n 0, 1), (173, .sipush 132, 3), (176, .newarray .int, 2), (178, .putfield 53, 3), (181, .aload_n 0, 1), (182, .sipush 132, 3), (185, .newarray .int, 2), (187, .putfield 56, 3), (190, .aload_n 0, 1), (191, .bipush 11, 2), (193, .newarray .int, 2), (195, .putfield 59, 3), (198, .aload_n 0, 1), (199, .sipush 11000, 3)] : List (Nat × Instr × Nat)).all (fun x => decide (decode cX12_init x.1 = .ok x.2)) = true := by decide +kernel
theorem dX12_init_88 : decode cX12_init 88 = .ok (.iastore, 1) := dq_at daX12_init_R58 (i := 0) rfl
theorem dX12_init_89 : decode cX12_init 89 = .ok (.dup, 1) := dq_at daX12_init_R58 (i := 1) rfl
theorem dX12_init_90 : decode cX12_init 90 = .ok (.bipush 9, 2) := dq_at daX12_init_R58 (i := 2) rfl
theorem dX12_init_92 : decode cX12_init 92 = .ok (.iconst (-1), 1) := dq_at daX12_init_R58 (i := 3) rfl
theorem dX12_init_93 : decode cX12_init 93 = .ok (.iastore, 1) := dq_at daX12_init_R58 (i := 4) rfl
theorem dX12_init_94 : decode cX12_init 94 = .ok (.dup, 1) := dq_at daX12_init_R58 (i := 5) rfl
theorem dX12_init_95 : decode cX12_init 95 = .ok (.bipush 10, 2) := dq_at daX12_init_R58 (i := 6) rfl
theorem dX12_init_97 : decode cX12_init 97 = .ok (.iconst (-1), 1) := dq_at daX12_init_R58 (i := 7) rfl
theorem dX12_init_98 : decode cX12_init 98 = .ok (.iastore, 1) := dq_at daX12_init_R58 (i := 8) rfl
theorem dX12_init_99 : decode cX12_init 99 = .ok (.dup, 1) := dq_at daX12_init_R58 (i := 9) rfl
theorem dX12_init_100 : decode cX12_init 100 = .ok (.bipush 11, 2) := dq_at daX12_init_R58 (i := 10) rfl
theorem dX12_init_102 : decode cX12_init 102 = .ok (.iconst (-1), 1) := dq_at daX12_init_R58 (i := 11) rfl
theorem dX12_init_103 : decode cX12_init 103 = .ok (.iastore, 1) := dq_at daX12_init_R58 (i := 12) rfl
theorem dX12_init_104 : decode cX12_init 104 = .ok (.putfield 25, 3) := dq_at daX12_init_R58 (i := 13) rfl
theorem dX12_init_107 : decode cX12_init 107 = .ok (.aload_n 0, 1) := dq_at daX12_init_R58 (i := 14) rfl
theorem dX12_init_108 : decode cX12_init 108 = .ok (.bipush 12, 2) := dq_at daX12_init_R58 (i := 15) rfl
theorem dX12_init_110 : decode cX12_init 110 = .ok (.newarray .boolean, 2) := dq_at daX12_init_R58 (i := 16) rfl
theorem dX12_init_112 : decode cX12_init 112 = .ok (.putfield 28, 3) := dq_at daX12_init_R58 (i := 17) rfl
theorem dX12_init_115 : decode cX12_init 115 = .ok (.aload_n 0, 1) := dq_at daX12_init_R58 (i := 18) rfl
theorem dX12_init_116 : decode cX12_init 116 = .ok (.bipush 11, 2) := dq_at daX12_init_R58 (i := 19) rfl
theorem dX12_init_118 : decode cX12_init 118 = .ok (.newarray .int, 2) := dq_at daX12_init_R58 (i := 20) rfl
theorem dX12_init_120 : decode cX12_init 120 = .ok (.putfield 32, 3) := dq_at daX12_init_R58 (i := 21) rfl
theorem dX12_init_123 : decode cX12_init 123 = .ok (.aload_n 0, 1) := dq_at daX12_init_R58 (i := 22) rfl
theorem dX12_init_124 : decode cX12_init 124 = .ok (.bipush 11, 2) := dq_at daX12_init_R58 (i := 23) rfl
theorem dX12_init_126 : decode cX12_init 126 = .ok (.newarray .int, 2) := dq_at daX12_init_R58 (i := 24) rfl
theorem dX12_init_128 : decode cX12_init 128 = .ok (.putfield 35, 3) := dq_at daX12_init_R58 (i := 25) rfl
theorem dX12_init_131 : decode cX12_init 131 = .ok (.aload_n 0, 1) := dq_at daX12_init_R58 (i := 26) rfl
theorem dX12_init_132 : decode cX12_init 132 = .ok (.bipush 11, 2) := dq_at daX12_init_R58 (i := 27) rfl
theorem dX12_init_134 : decode cX12_init 134 = .ok (.newarray .int, 2) := dq_at daX12_init_R58 (i := 28) rfl
theorem dX12_init_136 : decode cX12_init 136 = .ok (.putfield 38, 3) := dq_at daX12_init_R58 (i := 29) rfl
theorem dX12_init_139 : decode cX12_init 139 = .ok (.aload_n 0, 1) := dq_at daX12_init_R58 (i := 30) rfl
theorem dX12_init_140 : decode cX12_init 140 = .ok (.bipush 11, 2) := dq_at daX12_init_R58 (i := 31) rfl
theorem dX12_init_142 : decode cX12_init 142 = .ok (.newarray .int, 2) := dq_at daX12_init_R58 (i := 32) rfl
theorem dX12_init_144 : decode cX12_init 144 = .ok (.putfield 41, 3) := dq_at daX12_init_R58 (i := 33) rfl
theorem dX12_init_147 : decode cX12_init 147 = .ok (.aload_n 0, 1) := dq_at daX12_init_R58 (i := 34) rfl
theorem dX12_init_148 : decode cX12_init 148 = .ok (.bipush 11, 2) := dq_at daX12_init_R58 (i := 35) rfl
theorem dX12_init_150 : decode cX12_init 150 = .ok (.newarray .int, 2) := dq_at daX12_init_R58 (i := 36) rfl
theorem dX12_init_152 : decode cX12_init 152 = .ok (.putfield 44, 3) := dq_at daX12_init_R58 (i := 37) rfl
theorem dX12_init_155 : decode cX12_init 155 = .ok (.aload_n 0, 1) := dq_at daX12_init_R58 (i := 38) rfl
theorem dX12_init_156 : decode cX12_init 156 = .ok (.bipush 11, 2) := dq_at daX12_init_R58 (i := 39) rfl
theorem dX12_init_158 : decode cX12_init 158 = .ok (.newarray .int, 2) := dq_at daX12_init_R58 (i := 40) rfl
theorem dX12_init_160 : decode cX12_init 160 = .ok (.putfield 47, 3) := dq_at daX12_init_R58 (i := 41) rfl
theorem dX12_init_163 : decode cX12_init 163 = .ok (.aload_n 0, 1) := dq_at daX12_init_R58 (i := 42) rfl
theorem dX12_init_164 : decode cX12_init 164 = .ok (.sipush 880, 3) := dq_at daX12_init_R58 (i := 43) rfl
theorem dX12_init_167 : decode cX12_init 167 = .ok (.newarray .int, 2) := dq_at daX12_init_R58 (i := 44) rfl
theorem dX12_init_169 : decode cX12_init 169 = .ok (.putfield 50, 3) := dq_at daX12_init_R58 (i := 45) rfl
theorem dX12_init_172 : decode cX12_init 172 = .ok (.aload_n 0, 1) := dq_at daX12_init_R58 (i := 46) rfl
theorem dX12_init_173 : decode cX12_init 173 = .ok (.sipush 132, 3) := dq_at daX12_init_R58 (i := 47) rfl
theorem dX12_init_176 : decode cX12_init 176 = .ok (.newarray .int, 2) := dq_at daX12_init_R58 (i := 48) rfl
theorem dX12_init_178 : decode cX12_init 178 = .ok (.putfield 53, 3) := dq_at daX12_init_R58 (i := 49) rfl
theorem dX12_init_181 : decode cX12_init 181 = .ok (.aload_n 0, 1) := dq_at daX12_init_R58 (i := 50) rfl
theorem dX12_init_182 : decode cX12_init 182 = .ok (.sipush 132, 3) := dq_at daX12_init_R58 (i := 51) rfl
theorem dX12_init_185 : decode cX12_init 185 = .ok (.newarray .int, 2) := dq_at daX12_init_R58 (i := 52) rfl
theorem dX12_init_187 : decode cX12_init 187 = .ok (.putfield 56, 3) := dq_at daX12_init_R58 (i := 53) rfl
theorem dX12_init_190 : decode cX12_init 190 = .ok (.aload_n 0, 1) := dq_at daX12_init_R58 (i := 54) rfl
theorem dX12_init_191 : decode cX12_init 191 = .ok (.bipush 11, 2) := dq_at daX12_init_R58 (i := 55) rfl
theorem dX12_init_193 : decode cX12_init 193 = .ok (.newarray .int, 2) := dq_at daX12_init_R58 (i := 56) rfl
theorem dX12_init_195 : decode cX12_init 195 = .ok (.putfield 59, 3) := dq_at daX12_init_R58 (i := 57) rfl
theorem dX12_init_198 : decode cX12_init 198 = .ok (.aload_n 0, 1) := dq_at daX12_init_R58 (i := 58) rfl
theorem dX12_init_199 : decode cX12_init 199 = .ok (.sipush 11000, 3) := dq_at daX12_init_R58 (i := 59) rfl
theorem daX12_init_R59 : ([(202, .newarray .int, 2), (204, .putfield 62, 3), (207, .aload_n 0, 1), (208, .bipush 80, 2), (210, .newarray .int, 2), (212, .putfield 65, 3), (215, .aload_n 0, 1), (216, .sipush 480, 3), (219, .newarray .int, 2), (221, .putfield 68, 3), (224, .aload_n 0, 1), (225, .sipush 480, 3), (228, .newarray .int, 2), (230, .putfield 71, 3), (233, .aload_n 0, 1), (234, .sipush 480, 3), (237, .newarray .int, 2), (239, .putfield 74, 3), (242, .aload_n 0, 1), (243, .sipush 480, 3), (246, .newarray .int, 2), (248, .putfield 77, 3), (251, .aload_n 0, 1), (252, .sipush 480, 3), (255, .newarray .int, 2), (257, .putfield 80, 3), (260, .aload_n 0, 1), (261, .bipush 40, 2), (263, .newarray .int, 2), (265, .putfield 83, 3), (268, .aload_n 0, 1), (269, .iconst 5, 1), (270, .newarray .int, 2), (272, .putfield 86, 3), (275, .aload_n 0, 1), (276, .iconst 5, 1), (277, .newarray .int, 2), (279, .putfield 89, 3), (282, .aload_n 0, 1), (283, .bipush 6, 2), (285, .newarray .int, 2), (287, .putfield 92, 3), (290, .aload_n 0, 1), (291, .iconst (-1), 1), (292, .putfield 95, 3), (295, .aload_n 0, 1), (296, .bipush 24, 2), (298, .newarray .int, 2), (300, .putfield 99, 3), (303, .aload_n 0, 1), (304, .bipush 6, 2), (306, .newarray .int, 2), (308, .dup, 1), (309, .iconst 0, 1), (310, .iconst (-1), 1), (311, .iastore, 1), (312, .dup, 1), (313, .iconst 1, 1), (314, .iconst (-1), 1), (315, .iastore, 1)] : List (Nat × Instr × Nat)).all (fun x => decide (decode cX12_init x.1 = .ok x.2)) = true := by decide +kernel
theorem dX12_init_202 : decode cX12_init 202 = .ok (.newarray .int, 2) := dq_at daX12_init_R59 (i := 0) rfl
theorem dX12_init_204 : decode cX12_init 204 = .ok (.putfield 62, 3) := dq_at daX12_init_R59 (i := 1) rfl
theorem dX12_init_207 : decode cX12_init 207 = .ok (.aload_n 0, 1) := dq_at daX12_init_R59 (i := 2) rfl
theorem dX12_init_208 : decode cX12_init 208 = .ok (.bipush 80, 2) := dq_at daX12_init_R59 (i := 3) rfl
theorem dX12_init_210 : decode cX12_init 210 = .ok (.newarray .int, 2) := dq_at daX12_init_R59 (i := 4) rfl
theorem dX12_init_212 : decode cX12_init 212 = .ok (.putfield 65, 3) := dq_at daX12_init_R59 (i := 5) rfl
theorem dX12_init_215 : decode cX12_init 215 = .ok (.aload_n 0, 1) := dq_at daX12_init_R59 (i := 6) rfl
theorem dX12_init_216 : decode cX12_init 216 = .ok (.sipush 480, 3) := dq_at daX12_init_R59 (i := 7) rfl
theorem dX12_init_219 : decode cX12_init 219 = .ok (.newarray .int, 2) := dq_at daX12_init_R59 (i := 8) rfl
theorem dX12_init_221 : decode cX12_init 221 = .ok (.putfield 68, 3) := dq_at daX12_init_R59 (i := 9) rfl
theorem dX12_init_224 : decode cX12_init 224 = .ok (.aload_n 0, 1) := dq_at daX12_init_R59 (i := 10) rfl
theorem dX12_init_225 : decode cX12_init 225 = .ok (.sipush 480, 3) := dq_at daX12_init_R59 (i := 11) rfl
theorem dX12_init_228 : decode cX12_init 228 = .ok (.newarray .int, 2) := dq_at daX12_init_R59 (i := 12) rfl
theorem dX12_init_230 : decode cX12_init 230 = .ok (.putfield 71, 3) := dq_at daX12_init_R59 (i := 13) rfl
theorem dX12_init_233 : decode cX12_init 233 = .ok (.aload_n 0, 1) := dq_at daX12_init_R59 (i := 14) rfl
theorem dX12_init_234 : decode cX12_init 234 = .ok (.sipush 480, 3) := dq_at daX12_init_R59 (i := 15) rfl
theorem dX12_init_237 : decode cX12_init 237 = .ok (.newarray .int, 2) := dq_at daX12_init_R59 (i := 16) rfl
theorem dX12_init_239 : decode cX12_init 239 = .ok (.putfield 74, 3) := dq_at daX12_init_R59 (i := 17) rfl
theorem dX12_init_242 : decode cX12_init 242 = .ok (.aload_n 0, 1) := dq_at daX12_init_R59 (i := 18) rfl
theorem dX12_init_243 : decode cX12_init 243 = .ok (.sipush 480, 3) := dq_at daX12_init_R59 (i := 19) rfl
theorem dX12_init_246 : decode cX12_init 246 = .ok (.newarray .int, 2) := dq_at daX12_init_R59 (i := 20) rfl
theorem dX12_init_248 : decode cX12_init 248 = .ok (.putfield 77, 3) := dq_at daX12_init_R59 (i := 21) rfl
theorem dX12_init_251 : decode cX12_init 251 = .ok (.aload_n 0, 1) := dq_at daX12_init_R59 (i := 22) rfl
theorem dX12_init_252 : decode cX12_init 252 = .ok (.sipush 480, 3) := dq_at daX12_init_R59 (i := 23) rfl
theorem dX12_init_255 : decode cX12_init 255 = .ok (.newarray .int, 2) := dq_at daX12_init_R59 (i := 24) rfl
theorem dX12_init_257 : decode cX12_init 257 = .ok (.putfield 80, 3) := dq_at daX12_init_R59 (i := 25) rfl
theorem dX12_init_260 : decode cX12_init 260 = .ok (.aload_n 0, 1) := dq_at daX12_init_R59 (i := 26) rfl
theorem dX12_init_261 : decode cX12_init 261 = .ok (.bipush 40, 2) := dq_at daX12_init_R59 (i := 27) rfl
theorem dX12_init_263 : decode cX12_init 263 = .ok (.newarray .int, 2) := dq_at daX12_init_R59 (i := 28) rfl
theorem dX12_init_265 : decode cX12_init 265 = .ok (.putfield 83, 3) := dq_at daX12_init_R59 (i := 29) rfl
theorem dX12_init_268 : decode cX12_init 268 = .ok (.aload_n 0, 1) := dq_at daX12_init_R59 (i := 30) rfl
theorem dX12_init_269 : decode cX12_init 269 = .ok (.iconst 5, 1) := dq_at daX12_init_R59 (i := 31) rfl
theorem dX12_init_270 : decode cX12_init 270 = .ok (.newarray .int, 2) := dq_at daX12_init_R59 (i := 32) rfl
theorem dX12_init_272 : decode cX12_init 272 = .ok (.putfield 86, 3) := dq_at daX12_init_R59 (i := 33) rfl
theorem dX12_init_275 : decode cX12_init 275 = .ok (.aload_n 0, 1) := dq_at daX12_init_R59 (i := 34) rfl
theorem dX12_init_276 : decode cX12_init 276 = .ok (.iconst 5, 1) := dq_at daX12_init_R59 (i := 35) rfl
theorem dX12_init_277 : decode cX12_init 277 = .ok (.newarray .int, 2) := dq_at daX12_init_R59 (i := 36) rfl
theorem dX12_init_279 : decode cX12_init 279 = .ok (.putfield 89, 3) := dq_at daX12_init_R59 (i := 37) rfl
theorem dX12_init_282 : decode cX12_init 282 = .ok (.aload_n 0, 1) := dq_at daX12_init_R59 (i := 38) rfl
theorem dX12_init_283 : decode cX12_init 283 = .ok (.bipush 6, 2) := dq_at daX12_init_R59 (i := 39) rfl
theorem dX12_init_285 : decode cX12_init 285 = .ok (.newarray .int, 2) := dq_at daX12_init_R59 (i := 40) rfl
theorem dX12_init_287 : decode cX12_init 287 = .ok (.putfield 92, 3) := dq_at daX12_init_R59 (i := 41) rfl
theorem dX12_init_290 : decode cX12_init 290 = .ok (.aload_n 0, 1) := dq_at daX12_init_R59 (i := 42) rfl
theorem dX12_init_291 : decode cX12_init 291 = .ok (.iconst (-1), 1) := dq_at daX12_init_R59 (i := 43) rfl
theorem dX12_init_292 : decode cX12_init 292 = .ok (.putfield 95, 3) := dq_at daX12_init_R59 (i := 44) rfl
theorem dX12_init_295 : decode cX12_init 295 = .ok (.aload_n 0, 1) := dq_at daX12_init_R59 (i := 45) rfl
theorem dX12_init_296 : decode cX12_init 296 = .ok (.bipush 24, 2) := dq_at daX12_init_R59 (i := 46) rfl
theorem dX12_init_298 : decode cX12_init 298 = .ok (.newarray .int, 2) := dq_at daX12_init_R59 (i := 47) rfl
theorem dX12_init_300 : decode cX12_init 300 = .ok (.putfield 99, 3) := dq_at daX12_init_R59 (i := 48) rfl
theorem dX12_init_303 : decode cX12_init 303 = .ok (.aload_n 0, 1) := dq_at daX12_init_R59 (i := 49) rfl
theorem dX12_init_304 : decode cX12_init 304 = .ok (.bipush 6, 2) := dq_at daX12_init_R59 (i := 50) rfl
theorem dX12_init_306 : decode cX12_init 306 = .ok (.newarray .int, 2) := dq_at daX12_init_R59 (i := 51) rfl
theorem dX12_init_308 : decode cX12_init 308 = .ok (.dup, 1) := dq_at daX12_init_R59 (i := 52) rfl
theorem dX12_init_309 : decode cX12_init 309 = .ok (.iconst 0, 1) := dq_at daX12_init_R59 (i := 53) rfl
theorem dX12_init_310 : decode cX12_init 310 = .ok (.iconst (-1), 1) := dq_at daX12_init_R59 (i := 54) rfl
theorem dX12_init_311 : decode cX12_init 311 = .ok (.iastore, 1) := dq_at daX12_init_R59 (i := 55) rfl
theorem dX12_init_312 : decode cX12_init 312 = .ok (.dup, 1) := dq_at daX12_init_R59 (i := 56) rfl
theorem dX12_init_313 : decode cX12_init 313 = .ok (.iconst 1, 1) := dq_at daX12_init_R59 (i := 57) rfl
theorem dX12_init_314 : decode cX12_init 314 = .ok (.iconst (-1), 1) := dq_at daX12_init_R59 (i := 58) rfl
theorem dX12_init_315 : decode cX12_init 315 = .ok (.iastore, 1) := dq_at daX12_init_R59 (i := 59) rfl
theorem daX12_init_R60 : ([(316, .dup, 1), (317, .iconst 2, 1), (318, .iconst (-1), 1), (319, .iastore, 1), (320, .dup, 1), (321, .iconst 3, 1), (322, .iconst (-1), 1), (323, .iastore, 1), (324, .dup, 1), (325, .iconst 4, 1), (326, .iconst (-1), 1), (327, .iastore, 1), (328, .dup, 1), (329, .iconst 5, 1), (330, .iconst (-1), 1), (331, .iastore, 1), (332, .putfield 102, 3), (335, .aload_n 0, 1), (336, .bipush 6, 2), (338, .newarray .int, 2), (340, .dup, 1), (341, .iconst 0, 1), (342, .iconst (-1), 1), (343, .iastore, 1), (344, .dup, 1), (345, .iconst 1, 1), (346, .iconst (-1), 1), (347, .iastore, 1), (348, .dup, 1), (349, .iconst 2, 1), (350, .iconst (-1), 1), (351, .iastore, 1), (352, .dup, 1), (353, .iconst 3, 1), (354, .iconst (-1), 1), (355, .iastore, 1), (356, .dup, 1), (357, .iconst 4, 1), (358, .iconst (-1), 1), (359, .iastore, 1), (360, .dup, 1), (361, .iconst 5, 1), (362, .iconst (-1), 1), (363, .iastore, 1), (364, .putfield 105, 3), (367, .aload_n 0, 1), (368, .bipush 6, 2), (370, .newarray .int, 2), (372, .putfield 108, 3), (375, .aload_n 0, 1), (376, .sipush 360, 3), (379, .newarray .long, 2), (381, .putfield 111, 3), (384, .aload_n 0, 1), (385, .bipush 6, 2), (387, .newarray .int, 2), (389, .putfield 115, 3), (392, .aload_n 0, 1), (393, .bipush 12, 2), (395, .newarray .int, 2)] : List (Nat × Instr × Nat)).all (fun x => decide (decode cX12_init x.1 = .ok x.2)) = true := by decide +kernel
theorem dX12_init_316 : decode cX12_init 316 = .ok (.dup, 1) := dq_at daX12_init_R60 (i := 0) rfl
theorem dX12_init_317 : decode cX12_init 317 = .ok (.iconst 2, 1) := dq_at daX12_init_R60 (i := 1) rfl
theorem dX12_init_318 : decode cX12_init 318 = .ok (.iconst (-1), 1) := dq_at daX12_init_R60 (i := 2) rfl
theorem dX12_init_319 : decode cX12_init 319 = .ok (.iastore, 1) := dq_at daX12_init_R60 (i := 3) rfl
theorem dX12_init_320 : decode cX12_init 320 = .ok (.dup, 1) := dq_at daX12_init_R60 (i := 4) rfl
theorem dX12_init_321 : decode cX12_init 321 = .ok (.iconst 3, 1) := dq_at daX12_init_R60 (i := 5) rfl
theorem dX12_init_322 : decode cX12_init 322 = .ok (.iconst (-1), 1) := dq_at daX12_init_R60 (i := 6) rfl
theorem dX12_init_323 : decode cX12_init 323 = .ok (.iastore, 1) := dq_at daX12_init_R60 (i := 7) rfl
theorem dX12_init_324 : decode cX12_init 324 = .ok (.dup, 1) := dq_at daX12_init_R60 (i := 8) rfl
theorem dX12_init_325 : decode cX12_init 325 = .ok (.iconst 4, 1) := dq_at daX12_init_R60 (i := 9) rfl
theorem dX12_init_326 : decode cX12_init 326 = .ok (.iconst (-1), 1) := dq_at daX12_init_R60 (i := 10) rfl
theorem dX12_init_327 : decode cX12_init 327 = .ok (.iastore, 1) := dq_at daX12_init_R60 (i := 11) rfl
theorem dX12_init_328 : decode cX12_init 328 = .ok (.dup, 1) := dq_at daX12_init_R60 (i := 12) rfl
theorem dX12_init_329 : decode cX12_init 329 = .ok (.iconst 5, 1) := dq_at daX12_init_R60 (i := 13) rfl
theorem dX12_init_330 : decode cX12_init 330 = .ok (.iconst (-1), 1) := dq_at daX12_init_R60 (i := 14) rfl
theorem dX12_init_331 : decode cX12_init 331 = .ok (.iastore, 1) := dq_at daX12_init_R60 (i := 15) rfl
theorem dX12_init_332 : decode cX12_init 332 = .ok (.putfield 102, 3) := dq_at daX12_init_R60 (i := 16) rfl
theorem dX12_init_335 : decode cX12_init 335 = .ok (.aload_n 0, 1) := dq_at daX12_init_R60 (i := 17) rfl
theorem dX12_init_336 : decode cX12_init 336 = .ok (.bipush 6, 2) := dq_at daX12_init_R60 (i := 18) rfl
theorem dX12_init_338 : decode cX12_init 338 = .ok (.newarray .int, 2) := dq_at daX12_init_R60 (i := 19) rfl
theorem dX12_init_340 : decode cX12_init 340 = .ok (.dup, 1) := dq_at daX12_init_R60 (i := 20) rfl
theorem dX12_init_341 : decode cX12_init 341 = .ok (.iconst 0, 1) := dq_at daX12_init_R60 (i := 21) rfl
theorem dX12_init_342 : decode cX12_init 342 = .ok (.iconst (-1), 1) := dq_at daX12_init_R60 (i := 22) rfl
theorem dX12_init_343 : decode cX12_init 343 = .ok (.iastore, 1) := dq_at daX12_init_R60 (i := 23) rfl
theorem dX12_init_344 : decode cX12_init 344 = .ok (.dup, 1) := dq_at daX12_init_R60 (i := 24) rfl
theorem dX12_init_345 : decode cX12_init 345 = .ok (.iconst 1, 1) := dq_at daX12_init_R60 (i := 25) rfl
theorem dX12_init_346 : decode cX12_init 346 = .ok (.iconst (-1), 1) := dq_at daX12_init_R60 (i := 26) rfl
theorem dX12_init_347 : decode cX12_init 347 = .ok (.iastore, 1) := dq_at daX12_init_R60 (i := 27) rfl
theorem dX12_init_348 : decode cX12_init 348 = .ok (.dup, 1) := dq_at daX12_init_R60 (i := 28) rfl
theorem dX12_init_349 : decode cX12_init 349 = .ok (.iconst 2, 1) := dq_at daX12_init_R60 (i := 29) rfl
theorem dX12_init_350 : decode cX12_init 350 = .ok (.iconst (-1), 1) := dq_at daX12_init_R60 (i := 30) rfl
theorem dX12_init_351 : decode cX12_init 351 = .ok (.iastore, 1) := dq_at daX12_init_R60 (i := 31) rfl
theorem dX12_init_352 : decode cX12_init 352 = .ok (.dup, 1) := dq_at daX12_init_R60 (i := 32) rfl
theorem dX12_init_353 : decode cX12_init 353 = .ok (.iconst 3, 1) := dq_at daX12_init_R60 (i := 33) rfl
theorem dX12_init_354 : decode cX12_init 354 = .ok (.iconst (-1), 1) := dq_at daX12_init_R60 (i := 34) rfl
theorem dX12_init_355 : decode cX12_init 355 = .ok (.iastore, 1) := dq_at daX12_init_R60 (i := 35) rfl
theorem dX12_init_356 : decode cX12_init 356 = .ok (.dup, 1) := dq_at daX12_init_R60 (i := 36) rfl
theorem dX12_init_357 : decode cX12_init 357 = .ok (.iconst 4, 1) := dq_at daX12_init_R60 (i := 37) rfl
theorem dX12_init_358 : decode cX12_init 358 = .ok (.iconst (-1), 1) := dq_at daX12_init_R60 (i := 38) rfl
theorem dX12_init_359 : decode cX12_init 359 = .ok (.iastore, 1) := dq_at daX12_init_R60 (i := 39) rfl
theorem dX12_init_360 : decode cX12_init 360 = .ok (.dup, 1) := dq_at daX12_init_R60 (i := 40) rfl
theorem dX12_init_361 : decode cX12_init 361 = .ok (.iconst 5, 1) := dq_at daX12_init_R60 (i := 41) rfl
theorem dX12_init_362 : decode cX12_init 362 = .ok (.iconst (-1), 1) := dq_at daX12_init_R60 (i := 42) rfl
theorem dX12_init_363 : decode cX12_init 363 = .ok (.iastore, 1) := dq_at daX12_init_R60 (i := 43) rfl
theorem dX12_init_364 : decode cX12_init 364 = .ok (.putfield 105, 3) := dq_at daX12_init_R60 (i := 44) rfl
theorem dX12_init_367 : decode cX12_init 367 = .ok (.aload_n 0, 1) := dq_at daX12_init_R60 (i := 45) rfl
theorem dX12_init_368 : decode cX12_init 368 = .ok (.bipush 6, 2) := dq_at daX12_init_R60 (i := 46) rfl
theorem dX12_init_370 : decode cX12_init 370 = .ok (.newarray .int, 2) := dq_at daX12_init_R60 (i := 47) rfl
theorem dX12_init_372 : decode cX12_init 372 = .ok (.putfield 108, 3) := dq_at daX12_init_R60 (i := 48) rfl
theorem dX12_init_375 : decode cX12_init 375 = .ok (.aload_n 0, 1) := dq_at daX12_init_R60 (i := 49) rfl
theorem dX12_init_376 : decode cX12_init 376 = .ok (.sipush 360, 3) := dq_at daX12_init_R60 (i := 50) rfl
theorem dX12_init_379 : decode cX12_init 379 = .ok (.newarray .long, 2) := dq_at daX12_init_R60 (i := 51) rfl
theorem dX12_init_381 : decode cX12_init 381 = .ok (.putfield 111, 3) := dq_at daX12_init_R60 (i := 52) rfl
theorem dX12_init_384 : decode cX12_init 384 = .ok (.aload_n 0, 1) := dq_at daX12_init_R60 (i := 53) rfl
theorem dX12_init_385 : decode cX12_init 385 = .ok (.bipush 6, 2) := dq_at daX12_init_R60 (i := 54) rfl
theorem dX12_init_387 : decode cX12_init 387 = .ok (.newarray .int, 2) := dq_at daX12_init_R60 (i := 55) rfl
theorem dX12_init_389 : decode cX12_init 389 = .ok (.putfield 115, 3) := dq_at daX12_init_R60 (i := 56) rfl
theorem dX12_init_392 : decode cX12_init 392 = .ok (.aload_n 0, 1) := dq_at daX12_init_R60 (i := 57) rfl
theorem dX12_init_393 : decode cX12_init 393 = .ok (.bipush 12, 2) := dq_at daX12_init_R60 (i := 58) rfl
theorem dX12_init_395 : decode cX12_init 395 = .ok (.newarray .int, 2) := dq_at daX12_init_R60 (i := 59) rfl
theorem daX12_init_R61 : ([(397, .putfield 118, 3), (400, .aload_n 0, 1), (401, .iconst 4, 1), (402, .newarray .int, 2), (404, .putfield 121, 3), (407, .aload_n 0, 1), (408, .bipush 12, 2), (410, .newarray .int, 2), (412, .putfield 124, 3), (415, .aload_n 0, 1), (416, .sipush 1280, 3), (419, .newarray .int, 2), (421, .putfield 127, 3), (424, .aload_n 0, 1), (425, .iconst 5, 1), (426, .newarray .int, 2), (428, .putfield 130, 3), (431, .iconst 0, 1), (432, .istore_n 1, 1), (433, .iload_n 1, 1), (434, .sipush 480, 3), (437, .if_icmp .ge 17, 3), (440, .aload_n 0, 1), (441, .getfield 74, 3), (444, .iload_n 1, 1), (445, .bipush (-2), 2), (447, .iastore, 1), (448, .iinc 1 1, 3), (451, .goto (-18), 3), (454, .return_, 1)] : List (Nat × Instr × Nat)).all (fun x => decide (decode cX12_init x.1 = .ok x.2)) = true := by decide +kernel
theorem dX12_init_397 : decode cX12_init 397 = .ok (.putfield 118, 3) := dq_at daX12_init_R61 (i := 0) rfl
theorem dX12_init_400 : decode cX12_init 400 = .ok (.aload_n 0, 1) := dq_at daX12_init_R61 (i := 1) rfl
theorem dX12_init_401 : decode cX12_init 401 = .ok (.iconst 4, 1) := dq_at daX12_init_R61 (i := 2) rfl
theorem dX12_init_402 : decode cX12_init 402 = .ok (.newarray .int, 2) := dq_at daX12_init_R61 (i := 3) rfl
theorem dX12_init_404 : decode cX12_init 404 = .ok (.putfield 121, 3) := dq_at daX12_init_R61 (i := 4) rfl
theorem dX12_init_407 : decode cX12_init 407 = .ok (.aload_n 0, 1) := dq_at daX12_init_R61 (i := 5) rfl
theorem dX12_init_408 : decode cX12_init 408 = .ok (.bipush 12, 2) := dq_at daX12_init_R61 (i := 6) rfl
theorem dX12_init_410 : decode cX12_init 410 = .ok (.newarray .int, 2) := dq_at daX12_init_R61 (i := 7) rfl
theorem dX12_init_412 : decode cX12_init 412 = .ok (.putfield 124, 3) := dq_at daX12_init_R61 (i := 8) rfl
theorem dX12_init_415 : decode cX12_init 415 = .ok (.aload_n 0, 1) := dq_at daX12_init_R61 (i := 9) rfl
theorem dX12_init_416 : decode cX12_init 416 = .ok (.sipush 1280, 3) := dq_at daX12_init_R61 (i := 10) rfl
theorem dX12_init_419 : decode cX12_init 419 = .ok (.newarray .int, 2) := dq_at daX12_init_R61 (i := 11) rfl
theorem dX12_init_421 : decode cX12_init 421 = .ok (.putfield 127, 3) := dq_at daX12_init_R61 (i := 12) rfl
theorem dX12_init_424 : decode cX12_init 424 = .ok (.aload_n 0, 1) := dq_at daX12_init_R61 (i := 13) rfl
theorem dX12_init_425 : decode cX12_init 425 = .ok (.iconst 5, 1) := dq_at daX12_init_R61 (i := 14) rfl
theorem dX12_init_426 : decode cX12_init 426 = .ok (.newarray .int, 2) := dq_at daX12_init_R61 (i := 15) rfl
theorem dX12_init_428 : decode cX12_init 428 = .ok (.putfield 130, 3) := dq_at daX12_init_R61 (i := 16) rfl
theorem dX12_init_431 : decode cX12_init 431 = .ok (.iconst 0, 1) := dq_at daX12_init_R61 (i := 17) rfl
theorem dX12_init_432 : decode cX12_init 432 = .ok (.istore_n 1, 1) := dq_at daX12_init_R61 (i := 18) rfl
theorem dX12_init_433 : decode cX12_init 433 = .ok (.iload_n 1, 1) := dq_at daX12_init_R61 (i := 19) rfl
theorem dX12_init_434 : decode cX12_init 434 = .ok (.sipush 480, 3) := dq_at daX12_init_R61 (i := 20) rfl
theorem dX12_init_437 : decode cX12_init 437 = .ok (.if_icmp .ge 17, 3) := dq_at daX12_init_R61 (i := 21) rfl
theorem dX12_init_440 : decode cX12_init 440 = .ok (.aload_n 0, 1) := dq_at daX12_init_R61 (i := 22) rfl
theorem dX12_init_441 : decode cX12_init 441 = .ok (.getfield 74, 3) := dq_at daX12_init_R61 (i := 23) rfl
theorem dX12_init_444 : decode cX12_init 444 = .ok (.iload_n 1, 1) := dq_at daX12_init_R61 (i := 24) rfl
theorem dX12_init_445 : decode cX12_init 445 = .ok (.bipush (-2), 2) := dq_at daX12_init_R61 (i := 25) rfl
theorem dX12_init_447 : decode cX12_init 447 = .ok (.iastore, 1) := dq_at daX12_init_R61 (i := 26) rfl
theorem dX12_init_448 : decode cX12_init 448 = .ok (.iinc 1 1, 3) := dq_at daX12_init_R61 (i := 27) rfl
theorem dX12_init_451 : decode cX12_init 451 = .ok (.goto (-18), 3) := dq_at daX12_init_R61 (i := 28) rfl
theorem dX12_init_454 : decode cX12_init 454 = .ok (.return_, 1) := dq_at daX12_init_R61 (i := 29) rfl
theorem daX12_in_R62 : ([(0, .iload_n 0, 1), (1, .iload_n 1, 1), (2, .if_icmp .lt 12, 3), (5, .iload_n 0, 1), (6, .iload_n 2, 1), (7, .if_icmp .gt 7, 3), (10, .iconst 1, 1), (11, .goto 4, 3), (14, .iconst 0, 1), (15, .ireturn, 1)] : List (Nat × Instr × Nat)).all (fun x => decide (decode cX12_in x.1 = .ok x.2)) = true := by decide +kernel
theorem dX12_in_0 : decode cX12_in 0 = .ok (.iload_n 0, 1) := dq_at daX12_in_R62 (i := 0) rfl
theorem dX12_in_1 : decode cX12_in 1 = .ok (.iload_n 1, 1) := dq_at daX12_in_R62 (i := 1) rfl
theorem dX12_in_2 : decode cX12_in 2 = .ok (.if_icmp .lt 12, 3) := dq_at daX12_in_R62 (i := 2) rfl
theorem dX12_in_5 : decode cX12_in 5 = .ok (.iload_n 0, 1) := dq_at daX12_in_R62 (i := 3) rfl
theorem dX12_in_6 : decode cX12_in 6 = .ok (.iload_n 2, 1) := dq_at daX12_in_R62 (i := 4) rfl
theorem dX12_in_7 : decode cX12_in 7 = .ok (.if_icmp .gt 7, 3) := dq_at daX12_in_R62 (i := 5) rfl
theorem dX12_in_10 : decode cX12_in 10 = .ok (.iconst 1, 1) := dq_at daX12_in_R62 (i := 6) rfl
theorem dX12_in_11 : decode cX12_in 11 = .ok (.goto 4, 3) := dq_at daX12_in_R62 (i := 7) rfl
theorem dX12_in_14 : decode cX12_in 14 = .ok (.iconst 0, 1) := dq_at daX12_in_R62 (i := 8) rfl
theorem dX12_in_15 : decode cX12_in 15 = .ok (.ireturn, 1) := dq_at daX12_in_R62 (i := 9) rfl
noncomputable def csX12_isName : List (List Cond) := [[Cond.code yX12_isName cX12_isName 2 (some .boolean)], [Cond.fieldLink RX12 133 "SeatsRoundModel" "names" "I", Cond.methodLink RX12 136 yX12_in, Cond.static yX12_in, Cond.initialized RX12, Cond.code yX12_in cX12_in 3 (some .boolean)], wsX120]
set_option maxRecDepth 20000 in
theorem ciX12_isName : ∀ l ∈ csX12_isName, ∀ w ∈ l, w ∈ wsX12_isName := by
  unfold csX12_isName
  refine List.forall_mem_cons.mpr ⟨fun _ h => List.mem_cons.mpr (Or.inl (List.mem_singleton.mp h)), List.forall_mem_cons.mpr ⟨fun _ h => List.mem_cons_of_mem _ (List.mem_append_left _ h), List.forall_mem_cons.mpr ⟨fun _ h => List.mem_cons_of_mem _ (List.mem_append_right _ h), fun l h => absurd h List.not_mem_nil⟩⟩⟩
set_option maxRecDepth 20000 in
theorem ggX12_isName_X12_in : GoodIn wsX12_isName wsX12_in := goodIn_r2 csX12_isName ciX12_isName _ [(1, 4)] rfl rfl
set_option maxRecDepth 20000 in
theorem gX12_isName_X12_in : GoodIn wsX12_isName (va_wsS RX12 136 yX12_in wsX12_in) := goodIn_app (goodIn_r2 csX12_isName ciX12_isName _ [(1, 1), (1, 2), (1, 3)] rfl rfl) ggX12_isName_X12_in
theorem daX12_isName_R63 : ([(0, .iload_n 1, 1), (1, .iconst 0, 1), (2, .aload_n 0, 1), (3, .getfield 133, 3), (6, .iconst 1, 1), (7, .isub, 1), (8, .invokestatic 136, 3), (11, .ireturn, 1)] : List (Nat × Instr × Nat)).all (fun x => decide (decode cX12_isName x.1 = .ok x.2)) = true := by decide +kernel
theorem dX12_isName_0 : decode cX12_isName 0 = .ok (.iload_n 1, 1) := dq_at daX12_isName_R63 (i := 0) rfl
theorem dX12_isName_1 : decode cX12_isName 1 = .ok (.iconst 0, 1) := dq_at daX12_isName_R63 (i := 1) rfl
theorem dX12_isName_2 : decode cX12_isName 2 = .ok (.aload_n 0, 1) := dq_at daX12_isName_R63 (i := 2) rfl
theorem dX12_isName_3 : decode cX12_isName 3 = .ok (.getfield 133, 3) := dq_at daX12_isName_R63 (i := 3) rfl
theorem dX12_isName_6 : decode cX12_isName 6 = .ok (.iconst 1, 1) := dq_at daX12_isName_R63 (i := 4) rfl
theorem dX12_isName_7 : decode cX12_isName 7 = .ok (.isub, 1) := dq_at daX12_isName_R63 (i := 5) rfl
theorem dX12_isName_8 : decode cX12_isName 8 = .ok (.invokestatic 136, 3) := dq_at daX12_isName_R63 (i := 6) rfl
theorem dX12_isName_11 : decode cX12_isName 11 = .ok (.ireturn, 1) := dq_at daX12_isName_R63 (i := 7) rfl
noncomputable def csX12_isKeeper : List (List Cond) := [[Cond.code yX12_isKeeper cX12_isKeeper 2 (some .boolean)], [Cond.fieldLink RX12 140 "SeatsRoundModel" "keepers" "I", Cond.methodLink RX12 136 yX12_in, Cond.static yX12_in, Cond.initialized RX12, Cond.code yX12_in cX12_in 3 (some .boolean)], wsX120]
set_option maxRecDepth 20000 in
theorem ciX12_isKeeper : ∀ l ∈ csX12_isKeeper, ∀ w ∈ l, w ∈ wsX12_isKeeper := by
  unfold csX12_isKeeper
  refine List.forall_mem_cons.mpr ⟨fun _ h => List.mem_cons.mpr (Or.inl (List.mem_singleton.mp h)), List.forall_mem_cons.mpr ⟨fun _ h => List.mem_cons_of_mem _ (List.mem_append_left _ h), List.forall_mem_cons.mpr ⟨fun _ h => List.mem_cons_of_mem _ (List.mem_append_right _ h), fun l h => absurd h List.not_mem_nil⟩⟩⟩
set_option maxRecDepth 20000 in
theorem ggX12_isKeeper_X12_in : GoodIn wsX12_isKeeper wsX12_in := goodIn_r2 csX12_isKeeper ciX12_isKeeper _ [(1, 4)] rfl rfl
set_option maxRecDepth 20000 in
theorem gX12_isKeeper_X12_in : GoodIn wsX12_isKeeper (va_wsS RX12 136 yX12_in wsX12_in) := goodIn_app (goodIn_r2 csX12_isKeeper ciX12_isKeeper _ [(1, 1), (1, 2), (1, 3)] rfl rfl) ggX12_isKeeper_X12_in
theorem daX12_isKeeper_R64 : ([(0, .iload_n 1, 1), (1, .iconst 0, 1), (2, .aload_n 0, 1), (3, .getfield 140, 3), (6, .iconst 1, 1), (7, .isub, 1), (8, .invokestatic 136, 3), (11, .ireturn, 1)] : List (Nat × Instr × Nat)).all (fun x => decide (decode cX12_isKeeper x.1 = .ok x.2)) = true := by decide +kernel
theorem dX12_isKeeper_0 : decode cX12_isKeeper 0 = .ok (.iload_n 1, 1) := dq_at daX12_isKeeper_R64 (i := 0) rfl
theorem dX12_isKeeper_1 : decode cX12_isKeeper 1 = .ok (.iconst 0, 1) := dq_at daX12_isKeeper_R64 (i := 1) rfl
theorem dX12_isKeeper_2 : decode cX12_isKeeper 2 = .ok (.aload_n 0, 1) := dq_at daX12_isKeeper_R64 (i := 2) rfl
theorem dX12_isKeeper_3 : decode cX12_isKeeper 3 = .ok (.getfield 140, 3) := dq_at daX12_isKeeper_R64 (i := 3) rfl
theorem dX12_isKeeper_6 : decode cX12_isKeeper 6 = .ok (.iconst 1, 1) := dq_at daX12_isKeeper_R64 (i := 4) rfl
theorem dX12_isKeeper_7 : decode cX12_isKeeper 7 = .ok (.isub, 1) := dq_at daX12_isKeeper_R64 (i := 5) rfl
theorem dX12_isKeeper_8 : decode cX12_isKeeper 8 = .ok (.invokestatic 136, 3) := dq_at daX12_isKeeper_R64 (i := 6) rfl
theorem dX12_isKeeper_11 : decode cX12_isKeeper 11 = .ok (.ireturn, 1) := dq_at daX12_isKeeper_R64 (i := 7) rfl
noncomputable def csX12_isTable : List (List Cond) := [[Cond.code yX12_isTable cX12_isTable 2 (some .boolean)], [Cond.fieldLink RX12 143 "SeatsRoundModel" "tables" "I", Cond.methodLink RX12 136 yX12_in, Cond.static yX12_in, Cond.initialized RX12, Cond.code yX12_in cX12_in 3 (some .boolean)], wsX120]
set_option maxRecDepth 20000 in
theorem ciX12_isTable : ∀ l ∈ csX12_isTable, ∀ w ∈ l, w ∈ wsX12_isTable := by
  unfold csX12_isTable
  refine List.forall_mem_cons.mpr ⟨fun _ h => List.mem_cons.mpr (Or.inl (List.mem_singleton.mp h)), List.forall_mem_cons.mpr ⟨fun _ h => List.mem_cons_of_mem _ (List.mem_append_left _ h), List.forall_mem_cons.mpr ⟨fun _ h => List.mem_cons_of_mem _ (List.mem_append_right _ h), fun l h => absurd h List.not_mem_nil⟩⟩⟩
set_option maxRecDepth 20000 in
theorem ggX12_isTable_X12_in : GoodIn wsX12_isTable wsX12_in := goodIn_r2 csX12_isTable ciX12_isTable _ [(1, 4)] rfl rfl
set_option maxRecDepth 20000 in
theorem gX12_isTable_X12_in : GoodIn wsX12_isTable (va_wsS RX12 136 yX12_in wsX12_in) := goodIn_app (goodIn_r2 csX12_isTable ciX12_isTable _ [(1, 1), (1, 2), (1, 3)] rfl rfl) ggX12_isTable_X12_in
theorem daX12_isTable_R65 : ([(0, .iload_n 1, 1), (1, .iconst 0, 1), (2, .aload_n 0, 1), (3, .getfield 143, 3), (6, .iconst 1, 1), (7, .isub, 1), (8, .invokestatic 136, 3), (11, .ireturn, 1)] : List (Nat × Instr × Nat)).all (fun x => decide (decode cX12_isTable x.1 = .ok x.2)) = true := by decide +kernel
theorem dX12_isTable_0 : decode cX12_isTable 0 = .ok (.iload_n 1, 1) := dq_at daX12_isTable_R65 (i := 0) rfl
theorem dX12_isTable_1 : decode cX12_isTable 1 = .ok (.iconst 0, 1) := dq_at daX12_isTable_R65 (i := 1) rfl
theorem dX12_isTable_2 : decode cX12_isTable 2 = .ok (.aload_n 0, 1) := dq_at daX12_isTable_R65 (i := 2) rfl
theorem dX12_isTable_3 : decode cX12_isTable 3 = .ok (.getfield 143, 3) := dq_at daX12_isTable_R65 (i := 3) rfl
theorem dX12_isTable_6 : decode cX12_isTable 6 = .ok (.iconst 1, 1) := dq_at daX12_isTable_R65 (i := 4) rfl
theorem dX12_isTable_7 : decode cX12_isTable 7 = .ok (.isub, 1) := dq_at daX12_isTable_R65 (i := 5) rfl
theorem dX12_isTable_8 : decode cX12_isTable 8 = .ok (.invokestatic 136, 3) := dq_at daX12_isTable_R65 (i := 6) rfl
theorem dX12_isTable_11 : decode cX12_isTable 11 = .ok (.ireturn, 1) := dq_at daX12_isTable_R65 (i := 7) rfl
noncomputable def csX12_feed : List (List Cond) := [[Cond.code yX12_feed cX12_feed 4 (some .int)], [Cond.fieldLink RX12 146 "SeatsRoundModel" "taped" "I", Cond.fieldLink RX12 65 "SeatsRoundModel" "tape" "[I", Cond.methodLink RX12 136 yX12_in, Cond.static yX12_in, Cond.initialized RX12, Cond.code yX12_in cX12_in 3 (some .boolean)], wsX120]
set_option maxRecDepth 20000 in
theorem ciX12_feed : ∀ l ∈ csX12_feed, ∀ w ∈ l, w ∈ wsX12_feed := by
  unfold csX12_feed
  refine List.forall_mem_cons.mpr ⟨fun _ h => List.mem_cons.mpr (Or.inl (List.mem_singleton.mp h)), List.forall_mem_cons.mpr ⟨fun _ h => List.mem_cons_of_mem _ (List.mem_append_left _ h), List.forall_mem_cons.mpr ⟨fun _ h => List.mem_cons_of_mem _ (List.mem_append_right _ h), fun l h => absurd h List.not_mem_nil⟩⟩⟩
set_option maxRecDepth 20000 in
theorem ggX12_feed_X12_in : GoodIn wsX12_feed wsX12_in := goodIn_r2 csX12_feed ciX12_feed _ [(1, 5)] rfl rfl
set_option maxRecDepth 20000 in
theorem gX12_feed_X12_in : GoodIn wsX12_feed (va_wsS RX12 136 yX12_in wsX12_in) := goodIn_app (goodIn_r2 csX12_feed ciX12_feed _ [(1, 2), (1, 3), (1, 4)] rfl rfl) ggX12_feed_X12_in
theorem daX12_feed_R66 : ([(0, .iload_n 1, 1), (1, .iconst 1, 1), (2, .iconst 4, 1), (3, .invokestatic 136, 3), (6, .ifCond .ne 5, 3), (9, .iconst (-1), 1), (10, .ireturn, 1), (11, .aload_n 0, 1), (12, .getfield 146, 3), (15, .iload_n 1, 1), (16, .iadd, 1), (17, .bipush 80, 2), (19, .if_icmp .le 6, 3), (25, .iconst 0, 1), (26, .istore_n 3, 1), (27, .iload_n 3, 1), (28, .iload_n 1, 1), (29, .if_icmp .ge 38, 3), (32, .aload_n 0, 1), (33, .getfield 65, 3), (36, .aload_n 0, 1), (37, .getfield 146, 3), (40, .iload_n 2, 1), (41, .bipush 8, 2), (43, .iload_n 3, 1), (44, .imul, 1), (45, .ishr, 1), (46, .sipush 255, 3), (49, .iand, 1), (50, .iastore, 1), (51, .aload_n 0, 1), (52, .dup, 1), (53, .getfield 146, 3), (56, .iconst 1, 1), (57, .iadd, 1), (58, .putfield 146, 3), (61, .iinc 3 1, 3), (64, .goto (-37), 3), (67, .aload_n 0, 1), (68, .getfield 146, 3), (71, .ireturn, 1)] : List (Nat × Instr × Nat)).all (fun x => decide (decode cX12_feed x.1 = .ok x.2)) = true := by decide +kernel
theorem dX12_feed_0 : decode cX12_feed 0 = .ok (.iload_n 1, 1) := dq_at daX12_feed_R66 (i := 0) rfl
theorem dX12_feed_1 : decode cX12_feed 1 = .ok (.iconst 1, 1) := dq_at daX12_feed_R66 (i := 1) rfl
theorem dX12_feed_2 : decode cX12_feed 2 = .ok (.iconst 4, 1) := dq_at daX12_feed_R66 (i := 2) rfl
theorem dX12_feed_3 : decode cX12_feed 3 = .ok (.invokestatic 136, 3) := dq_at daX12_feed_R66 (i := 3) rfl
theorem dX12_feed_6 : decode cX12_feed 6 = .ok (.ifCond .ne 5, 3) := dq_at daX12_feed_R66 (i := 4) rfl
theorem dX12_feed_9 : decode cX12_feed 9 = .ok (.iconst (-1), 1) := dq_at daX12_feed_R66 (i := 5) rfl
theorem dX12_feed_10 : decode cX12_feed 10 = .ok (.ireturn, 1) := dq_at daX12_feed_R66 (i := 6) rfl
theorem dX12_feed_11 : decode cX12_feed 11 = .ok (.aload_n 0, 1) := dq_at daX12_feed_R66 (i := 7) rfl
theorem dX12_feed_12 : decode cX12_feed 12 = .ok (.getfield 146, 3) := dq_at daX12_feed_R66 (i := 8) rfl
theorem dX12_feed_15 : decode cX12_feed 15 = .ok (.iload_n 1, 1) := dq_at daX12_feed_R66 (i := 9) rfl
theorem dX12_feed_16 : decode cX12_feed 16 = .ok (.iadd, 1) := dq_at daX12_feed_R66 (i := 10) rfl
theorem dX12_feed_17 : decode cX12_feed 17 = .ok (.bipush 80, 2) := dq_at daX12_feed_R66 (i := 11) rfl
theorem dX12_feed_19 : decode cX12_feed 19 = .ok (.if_icmp .le 6, 3) := dq_at daX12_feed_R66 (i := 12) rfl
theorem dX12_feed_25 : decode cX12_feed 25 = .ok (.iconst 0, 1) := dq_at daX12_feed_R66 (i := 13) rfl
theorem dX12_feed_26 : decode cX12_feed 26 = .ok (.istore_n 3, 1) := dq_at daX12_feed_R66 (i := 14) rfl
theorem dX12_feed_27 : decode cX12_feed 27 = .ok (.iload_n 3, 1) := dq_at daX12_feed_R66 (i := 15) rfl
theorem dX12_feed_28 : decode cX12_feed 28 = .ok (.iload_n 1, 1) := dq_at daX12_feed_R66 (i := 16) rfl
theorem dX12_feed_29 : decode cX12_feed 29 = .ok (.if_icmp .ge 38, 3) := dq_at daX12_feed_R66 (i := 17) rfl
theorem dX12_feed_32 : decode cX12_feed 32 = .ok (.aload_n 0, 1) := dq_at daX12_feed_R66 (i := 18) rfl
theorem dX12_feed_33 : decode cX12_feed 33 = .ok (.getfield 65, 3) := dq_at daX12_feed_R66 (i := 19) rfl
theorem dX12_feed_36 : decode cX12_feed 36 = .ok (.aload_n 0, 1) := dq_at daX12_feed_R66 (i := 20) rfl
theorem dX12_feed_37 : decode cX12_feed 37 = .ok (.getfield 146, 3) := dq_at daX12_feed_R66 (i := 21) rfl
theorem dX12_feed_40 : decode cX12_feed 40 = .ok (.iload_n 2, 1) := dq_at daX12_feed_R66 (i := 22) rfl
theorem dX12_feed_41 : decode cX12_feed 41 = .ok (.bipush 8, 2) := dq_at daX12_feed_R66 (i := 23) rfl
theorem dX12_feed_43 : decode cX12_feed 43 = .ok (.iload_n 3, 1) := dq_at daX12_feed_R66 (i := 24) rfl
theorem dX12_feed_44 : decode cX12_feed 44 = .ok (.imul, 1) := dq_at daX12_feed_R66 (i := 25) rfl
theorem dX12_feed_45 : decode cX12_feed 45 = .ok (.ishr, 1) := dq_at daX12_feed_R66 (i := 26) rfl
theorem dX12_feed_46 : decode cX12_feed 46 = .ok (.sipush 255, 3) := dq_at daX12_feed_R66 (i := 27) rfl
theorem dX12_feed_49 : decode cX12_feed 49 = .ok (.iand, 1) := dq_at daX12_feed_R66 (i := 28) rfl
theorem dX12_feed_50 : decode cX12_feed 50 = .ok (.iastore, 1) := dq_at daX12_feed_R66 (i := 29) rfl
theorem dX12_feed_51 : decode cX12_feed 51 = .ok (.aload_n 0, 1) := dq_at daX12_feed_R66 (i := 30) rfl
theorem dX12_feed_52 : decode cX12_feed 52 = .ok (.dup, 1) := dq_at daX12_feed_R66 (i := 31) rfl
theorem dX12_feed_53 : decode cX12_feed 53 = .ok (.getfield 146, 3) := dq_at daX12_feed_R66 (i := 32) rfl
theorem dX12_feed_56 : decode cX12_feed 56 = .ok (.iconst 1, 1) := dq_at daX12_feed_R66 (i := 33) rfl
theorem dX12_feed_57 : decode cX12_feed 57 = .ok (.iadd, 1) := dq_at daX12_feed_R66 (i := 34) rfl
theorem dX12_feed_58 : decode cX12_feed 58 = .ok (.putfield 146, 3) := dq_at daX12_feed_R66 (i := 35) rfl
theorem dX12_feed_61 : decode cX12_feed 61 = .ok (.iinc 3 1, 3) := dq_at daX12_feed_R66 (i := 36) rfl
theorem dX12_feed_64 : decode cX12_feed 64 = .ok (.goto (-37), 3) := dq_at daX12_feed_R66 (i := 37) rfl
theorem dX12_feed_67 : decode cX12_feed 67 = .ok (.aload_n 0, 1) := dq_at daX12_feed_R66 (i := 38) rfl
theorem dX12_feed_68 : decode cX12_feed 68 = .ok (.getfield 146, 3) := dq_at daX12_feed_R66 (i := 39) rfl
theorem dX12_feed_71 : decode cX12_feed 71 = .ok (.ireturn, 1) := dq_at daX12_feed_R66 (i := 40) rfl
noncomputable def csX12_name : List (List Cond) := [[Cond.code yX12_name cX12_name 2 (some .int)], [Cond.fieldLink RX12 146 "SeatsRoundModel" "taped" "I", Cond.fieldLink RX12 115 "SeatsRoundModel" "told" "[I", Cond.fieldLink RX12 65 "SeatsRoundModel" "tape" "[I", Cond.fieldLink RX12 133 "SeatsRoundModel" "names" "I", Cond.methodLink RX12 136 yX12_in, Cond.static yX12_in, Cond.initialized RX12, Cond.code yX12_in cX12_in 3 (some .boolean), Cond.methodLink RX12 149 yX12_found, Cond.instanceMethod yX12_found, Cond.selects RX12 yX12_found yX12_found, Cond.code yX12_found cX12_found 5 (some .int), Cond.fieldLink RX12 7 "SeatsRoundModel" "nameSize" "[I", Cond.fieldLink RX12 13 "SeatsRoundModel" "nameByte" "[I", Cond.methodLink RX12 153 yX12_comesName, Cond.instanceMethod yX12_comesName, Cond.selects RX12 yX12_comesName yX12_comesName, Cond.code yX12_comesName cX12_comesName 3 none], wsX120]
set_option maxRecDepth 20000 in
theorem ciX12_name : ∀ l ∈ csX12_name, ∀ w ∈ l, w ∈ wsX12_name := by
  unfold csX12_name
  refine List.forall_mem_cons.mpr ⟨fun _ h => List.mem_cons.mpr (Or.inl (List.mem_singleton.mp h)), List.forall_mem_cons.mpr ⟨fun _ h => List.mem_cons_of_mem _ (List.mem_append_left _ h), List.forall_mem_cons.mpr ⟨fun _ h => List.mem_cons_of_mem _ (List.mem_append_right _ h), fun l h => absurd h List.not_mem_nil⟩⟩⟩
set_option maxRecDepth 20000 in
theorem ggX12_name_X12_in : GoodIn wsX12_name wsX12_in := goodIn_r2 csX12_name ciX12_name _ [(1, 7)] rfl rfl
set_option maxRecDepth 20000 in
theorem gX12_name_X12_in : GoodIn wsX12_name (va_wsS RX12 136 yX12_in wsX12_in) := goodIn_app (goodIn_r2 csX12_name ciX12_name _ [(1, 4), (1, 5), (1, 6)] rfl rfl) ggX12_name_X12_in
theorem daX12_name_R67 : ([(0, .aload_n 0, 1), (1, .getfield 146, 3), (4, .iconst 1, 1), (5, .bipush 6, 2), (7, .invokestatic 136, 3), (10, .ifCond .ne 5, 3), (13, .iconst (-1), 1), (14, .ireturn, 1)] : List (Nat × Instr × Nat)).all (fun x => decide (decode cX12_name x.1 = .ok x.2)) = true := by decide +kernel
theorem dX12_name_0 : decode cX12_name 0 = .ok (.aload_n 0, 1) := dq_at daX12_name_R67 (i := 0) rfl
theorem dX12_name_1 : decode cX12_name 1 = .ok (.getfield 146, 3) := dq_at daX12_name_R67 (i := 1) rfl
theorem dX12_name_4 : decode cX12_name 4 = .ok (.iconst 1, 1) := dq_at daX12_name_R67 (i := 2) rfl
theorem dX12_name_5 : decode cX12_name 5 = .ok (.bipush 6, 2) := dq_at daX12_name_R67 (i := 3) rfl
theorem dX12_name_7 : decode cX12_name 7 = .ok (.invokestatic 136, 3) := dq_at daX12_name_R67 (i := 4) rfl
theorem dX12_name_10 : decode cX12_name 10 = .ok (.ifCond .ne 5, 3) := dq_at daX12_name_R67 (i := 5) rfl
theorem dX12_name_13 : decode cX12_name 13 = .ok (.iconst (-1), 1) := dq_at daX12_name_R67 (i := 6) rfl
theorem dX12_name_14 : decode cX12_name 14 = .ok (.ireturn, 1) := dq_at daX12_name_R67 (i := 7) rfl
noncomputable def csX12_number : List (List Cond) := [[Cond.code yX12_number cX12_number 3 (some .int)], [Cond.methodLink RX12 158 yX12_isName, Cond.instanceMethod yX12_isName, Cond.selects RX12 yX12_isName yX12_isName, Cond.initialized RX12, Cond.code yX12_isName cX12_isName 2 (some .boolean), Cond.fieldLink RX12 133 "SeatsRoundModel" "names" "I", Cond.methodLink RX12 136 yX12_in, Cond.static yX12_in, Cond.code yX12_in cX12_in 3 (some .boolean), Cond.methodLink RX12 162 yX12_numberOf, Cond.instanceMethod yX12_numberOf, Cond.selects RX12 yX12_numberOf yX12_numberOf, Cond.code yX12_numberOf cX12_numberOf 5 (some .int), Cond.fieldLink RX12 7 "SeatsRoundModel" "nameSize" "[I", Cond.fieldLink RX12 13 "SeatsRoundModel" "nameByte" "[I", Cond.constant RX12 157 (16777619)], wsX120]
set_option maxRecDepth 20000 in
theorem ciX12_number : ∀ l ∈ csX12_number, ∀ w ∈ l, w ∈ wsX12_number := by
  unfold csX12_number
  refine List.forall_mem_cons.mpr ⟨fun _ h => List.mem_cons.mpr (Or.inl (List.mem_singleton.mp h)), List.forall_mem_cons.mpr ⟨fun _ h => List.mem_cons_of_mem _ (List.mem_append_left _ h), List.forall_mem_cons.mpr ⟨fun _ h => List.mem_cons_of_mem _ (List.mem_append_right _ h), fun l h => absurd h List.not_mem_nil⟩⟩⟩
set_option maxRecDepth 20000 in
theorem ggX12_number_X12_isName : GoodIn wsX12_number wsX12_isName := goodIn_r2 csX12_number ciX12_number _ [(1, 4), (1, 5), (1, 6), (1, 7), (1, 3), (1, 8), (2, 0), (2, 1), (2, 2), (2, 3), (2, 4), (2, 5), (2, 6), (2, 7), (2, 8), (2, 9), (2, 10), (2, 11), (2, 12), (2, 13), (2, 14), (2, 15), (2, 16), (2, 17), (2, 18), (2, 19), (2, 20), (2, 21), (2, 22), (2, 23), (2, 24), (2, 25), (2, 26), (2, 27), (2, 28), (2, 29), (2, 30), (2, 31), (2, 32), (2, 33), (2, 34), (2, 35), (2, 36), (2, 37), (2, 38), (2, 39), (2, 40), (2, 41), (2, 42), (2, 43), (2, 44), (2, 45), (2, 46), (2, 47), (2, 48), (2, 49), (2, 50), (2, 51), (2, 52), (2, 53), (2, 54), (2, 55), (2, 56), (2, 57), (2, 58)] rfl rfl
set_option maxRecDepth 20000 in
theorem gX12_number_X12_isName : GoodIn wsX12_number (wsV RX12 158 RX12 yX12_isName wsX12_isName) := goodIn_app (goodIn_r2 csX12_number ciX12_number _ [(1, 0), (1, 1), (1, 2), (1, 3)] rfl rfl) ggX12_number_X12_isName
theorem daX12_number_R68 : ([(0, .aload_n 0, 1), (1, .iload_n 1, 1), (2, .invokevirtual 158, 3), (5, .ifCond .eq 12, 3), (17, .iconst (-1), 1), (18, .ireturn, 1)] : List (Nat × Instr × Nat)).all (fun x => decide (decode cX12_number x.1 = .ok x.2)) = true := by decide +kernel
theorem dX12_number_0 : decode cX12_number 0 = .ok (.aload_n 0, 1) := dq_at daX12_number_R68 (i := 0) rfl
theorem dX12_number_1 : decode cX12_number 1 = .ok (.iload_n 1, 1) := dq_at daX12_number_R68 (i := 1) rfl
theorem dX12_number_2 : decode cX12_number 2 = .ok (.invokevirtual 158, 3) := dq_at daX12_number_R68 (i := 2) rfl
theorem dX12_number_5 : decode cX12_number 5 = .ok (.ifCond .eq 12, 3) := dq_at daX12_number_R68 (i := 3) rfl
theorem dX12_number_17 : decode cX12_number 17 = .ok (.iconst (-1), 1) := dq_at daX12_number_R68 (i := 4) rfl
theorem dX12_number_18 : decode cX12_number 18 = .ok (.ireturn, 1) := dq_at daX12_number_R68 (i := 5) rfl
noncomputable def csX12_keeper : List (List Cond) := [[Cond.code yX12_keeper cX12_keeper 3 (some .int)], [Cond.fieldLink RX12 140 "SeatsRoundModel" "keepers" "I", Cond.fieldLink RX12 16 "SeatsRoundModel" "street" "[I", Cond.fieldLink RX12 19 "SeatsRoundModel" "strength" "[I", Cond.methodLink RX12 136 yX12_in, Cond.static yX12_in, Cond.initialized RX12, Cond.code yX12_in cX12_in 3 (some .boolean)], wsX120]
set_option maxRecDepth 20000 in
theorem ciX12_keeper : ∀ l ∈ csX12_keeper, ∀ w ∈ l, w ∈ wsX12_keeper := by
  unfold csX12_keeper
  refine List.forall_mem_cons.mpr ⟨fun _ h => List.mem_cons.mpr (Or.inl (List.mem_singleton.mp h)), List.forall_mem_cons.mpr ⟨fun _ h => List.mem_cons_of_mem _ (List.mem_append_left _ h), List.forall_mem_cons.mpr ⟨fun _ h => List.mem_cons_of_mem _ (List.mem_append_right _ h), fun l h => absurd h List.not_mem_nil⟩⟩⟩
set_option maxRecDepth 20000 in
theorem ggX12_keeper_X12_in : GoodIn wsX12_keeper wsX12_in := goodIn_r2 csX12_keeper ciX12_keeper _ [(1, 6)] rfl rfl
set_option maxRecDepth 20000 in
theorem gX12_keeper_X12_in : GoodIn wsX12_keeper (va_wsS RX12 136 yX12_in wsX12_in) := goodIn_app (goodIn_r2 csX12_keeper ciX12_keeper _ [(1, 3), (1, 4), (1, 5)] rfl rfl) ggX12_keeper_X12_in
theorem daX12_keeper_R69 : ([(0, .iload_n 1, 1), (1, .iconst 0, 1), (2, .iconst 5, 1), (3, .invokestatic 136, 3), (6, .ifCond .eq 13, 3), (9, .iload_n 2, 1), (10, .iconst 1, 1), (11, .bipush 8, 2), (13, .invokestatic 136, 3), (16, .ifCond .ne 5, 3), (19, .iconst (-1), 1), (20, .ireturn, 1), (21, .aload_n 0, 1), (22, .getfield 140, 3), (25, .bipush 12, 2), (27, .if_icmp .ne 6, 3), (33, .aload_n 0, 1), (34, .getfield 16, 3), (37, .aload_n 0, 1), (38, .getfield 140, 3), (41, .iload_n 1, 1), (42, .iastore, 1), (43, .aload_n 0, 1), (44, .getfield 19, 3), (47, .aload_n 0, 1), (48, .getfield 140, 3), (51, .iload_n 2, 1), (52, .iastore, 1), (53, .aload_n 0, 1), (54, .dup, 1), (55, .getfield 140, 3), (58, .iconst 1, 1), (59, .iadd, 1), (60, .putfield 140, 3), (63, .aload_n 0, 1), (64, .getfield 140, 3), (67, .iconst 1, 1), (68, .isub, 1), (69, .ireturn, 1)] : List (Nat × Instr × Nat)).all (fun x => decide (decode cX12_keeper x.1 = .ok x.2)) = true := by decide +kernel
theorem dX12_keeper_0 : decode cX12_keeper 0 = .ok (.iload_n 1, 1) := dq_at daX12_keeper_R69 (i := 0) rfl
theorem dX12_keeper_1 : decode cX12_keeper 1 = .ok (.iconst 0, 1) := dq_at daX12_keeper_R69 (i := 1) rfl
theorem dX12_keeper_2 : decode cX12_keeper 2 = .ok (.iconst 5, 1) := dq_at daX12_keeper_R69 (i := 2) rfl
theorem dX12_keeper_3 : decode cX12_keeper 3 = .ok (.invokestatic 136, 3) := dq_at daX12_keeper_R69 (i := 3) rfl
theorem dX12_keeper_6 : decode cX12_keeper 6 = .ok (.ifCond .eq 13, 3) := dq_at daX12_keeper_R69 (i := 4) rfl
theorem dX12_keeper_9 : decode cX12_keeper 9 = .ok (.iload_n 2, 1) := dq_at daX12_keeper_R69 (i := 5) rfl
theorem dX12_keeper_10 : decode cX12_keeper 10 = .ok (.iconst 1, 1) := dq_at daX12_keeper_R69 (i := 6) rfl
theorem dX12_keeper_11 : decode cX12_keeper 11 = .ok (.bipush 8, 2) := dq_at daX12_keeper_R69 (i := 7) rfl
theorem dX12_keeper_13 : decode cX12_keeper 13 = .ok (.invokestatic 136, 3) := dq_at daX12_keeper_R69 (i := 8) rfl
theorem dX12_keeper_16 : decode cX12_keeper 16 = .ok (.ifCond .ne 5, 3) := dq_at daX12_keeper_R69 (i := 9) rfl
theorem dX12_keeper_19 : decode cX12_keeper 19 = .ok (.iconst (-1), 1) := dq_at daX12_keeper_R69 (i := 10) rfl
theorem dX12_keeper_20 : decode cX12_keeper 20 = .ok (.ireturn, 1) := dq_at daX12_keeper_R69 (i := 11) rfl
theorem dX12_keeper_21 : decode cX12_keeper 21 = .ok (.aload_n 0, 1) := dq_at daX12_keeper_R69 (i := 12) rfl
theorem dX12_keeper_22 : decode cX12_keeper 22 = .ok (.getfield 140, 3) := dq_at daX12_keeper_R69 (i := 13) rfl
theorem dX12_keeper_25 : decode cX12_keeper 25 = .ok (.bipush 12, 2) := dq_at daX12_keeper_R69 (i := 14) rfl
theorem dX12_keeper_27 : decode cX12_keeper 27 = .ok (.if_icmp .ne 6, 3) := dq_at daX12_keeper_R69 (i := 15) rfl
theorem dX12_keeper_33 : decode cX12_keeper 33 = .ok (.aload_n 0, 1) := dq_at daX12_keeper_R69 (i := 16) rfl
theorem dX12_keeper_34 : decode cX12_keeper 34 = .ok (.getfield 16, 3) := dq_at daX12_keeper_R69 (i := 17) rfl
theorem dX12_keeper_37 : decode cX12_keeper 37 = .ok (.aload_n 0, 1) := dq_at daX12_keeper_R69 (i := 18) rfl
theorem dX12_keeper_38 : decode cX12_keeper 38 = .ok (.getfield 140, 3) := dq_at daX12_keeper_R69 (i := 19) rfl
theorem dX12_keeper_41 : decode cX12_keeper 41 = .ok (.iload_n 1, 1) := dq_at daX12_keeper_R69 (i := 20) rfl
theorem dX12_keeper_42 : decode cX12_keeper 42 = .ok (.iastore, 1) := dq_at daX12_keeper_R69 (i := 21) rfl
theorem dX12_keeper_43 : decode cX12_keeper 43 = .ok (.aload_n 0, 1) := dq_at daX12_keeper_R69 (i := 22) rfl
theorem dX12_keeper_44 : decode cX12_keeper 44 = .ok (.getfield 19, 3) := dq_at daX12_keeper_R69 (i := 23) rfl
theorem dX12_keeper_47 : decode cX12_keeper 47 = .ok (.aload_n 0, 1) := dq_at daX12_keeper_R69 (i := 24) rfl
theorem dX12_keeper_48 : decode cX12_keeper 48 = .ok (.getfield 140, 3) := dq_at daX12_keeper_R69 (i := 25) rfl
theorem dX12_keeper_51 : decode cX12_keeper 51 = .ok (.iload_n 2, 1) := dq_at daX12_keeper_R69 (i := 26) rfl
theorem dX12_keeper_52 : decode cX12_keeper 52 = .ok (.iastore, 1) := dq_at daX12_keeper_R69 (i := 27) rfl
theorem dX12_keeper_53 : decode cX12_keeper 53 = .ok (.aload_n 0, 1) := dq_at daX12_keeper_R69 (i := 28) rfl
theorem dX12_keeper_54 : decode cX12_keeper 54 = .ok (.dup, 1) := dq_at daX12_keeper_R69 (i := 29) rfl
theorem dX12_keeper_55 : decode cX12_keeper 55 = .ok (.getfield 140, 3) := dq_at daX12_keeper_R69 (i := 30) rfl
theorem dX12_keeper_58 : decode cX12_keeper 58 = .ok (.iconst 1, 1) := dq_at daX12_keeper_R69 (i := 31) rfl
theorem dX12_keeper_59 : decode cX12_keeper 59 = .ok (.iadd, 1) := dq_at daX12_keeper_R69 (i := 32) rfl
theorem dX12_keeper_60 : decode cX12_keeper 60 = .ok (.putfield 140, 3) := dq_at daX12_keeper_R69 (i := 33) rfl
theorem dX12_keeper_63 : decode cX12_keeper 63 = .ok (.aload_n 0, 1) := dq_at daX12_keeper_R69 (i := 34) rfl
theorem dX12_keeper_64 : decode cX12_keeper 64 = .ok (.getfield 140, 3) := dq_at daX12_keeper_R69 (i := 35) rfl
theorem dX12_keeper_67 : decode cX12_keeper 67 = .ok (.iconst 1, 1) := dq_at daX12_keeper_R69 (i := 36) rfl
theorem dX12_keeper_68 : decode cX12_keeper 68 = .ok (.isub, 1) := dq_at daX12_keeper_R69 (i := 37) rfl
theorem dX12_keeper_69 : decode cX12_keeper 69 = .ok (.ireturn, 1) := dq_at daX12_keeper_R69 (i := 38) rfl
noncomputable def csX12_become : List (List Cond) := [[Cond.code yX12_become cX12_become 6 (some .int)], [Cond.fieldLink RX12 22 "SeatsRoundModel" "kind" "[I", Cond.fieldLink RX12 74 "SeatsRoundModel" "keptFor" "[I", Cond.fieldLink RX12 68 "SeatsRoundModel" "version" "[I", Cond.fieldLink RX12 71 "SeatsRoundModel" "kept" "[I", Cond.methodLink RX12 166 yX12_isKeeper, Cond.instanceMethod yX12_isKeeper, Cond.selects RX12 yX12_isKeeper yX12_isKeeper, Cond.initialized RX12, Cond.code yX12_isKeeper cX12_isKeeper 2 (some .boolean), Cond.fieldLink RX12 140 "SeatsRoundModel" "keepers" "I", Cond.methodLink RX12 136 yX12_in, Cond.static yX12_in, Cond.code yX12_in cX12_in 3 (some .boolean)], wsX120]
set_option maxRecDepth 20000 in
theorem ciX12_become : ∀ l ∈ csX12_become, ∀ w ∈ l, w ∈ wsX12_become := by
  unfold csX12_become
  refine List.forall_mem_cons.mpr ⟨fun _ h => List.mem_cons.mpr (Or.inl (List.mem_singleton.mp h)), List.forall_mem_cons.mpr ⟨fun _ h => List.mem_cons_of_mem _ (List.mem_append_left _ h), List.forall_mem_cons.mpr ⟨fun _ h => List.mem_cons_of_mem _ (List.mem_append_right _ h), fun l h => absurd h List.not_mem_nil⟩⟩⟩
set_option maxRecDepth 20000 in
theorem ggX12_become_X12_isKeeper : GoodIn wsX12_become wsX12_isKeeper := goodIn_r2 csX12_become ciX12_become _ [(1, 8), (1, 9), (1, 10), (1, 11), (1, 7), (1, 12), (2, 0), (2, 1), (2, 2), (2, 3), (2, 4), (2, 5), (2, 6), (2, 7), (2, 8), (2, 9), (2, 10), (2, 11), (2, 12), (2, 13), (2, 14), (2, 15), (2, 16), (2, 17), (2, 18), (2, 19), (2, 20), (2, 21), (2, 22), (2, 23), (2, 24), (2, 25), (2, 26), (2, 27), (2, 28), (2, 29), (2, 30), (2, 31), (2, 32), (2, 33), (2, 34), (2, 35), (2, 36), (2, 37), (2, 38), (2, 39), (2, 40), (2, 41), (2, 42), (2, 43), (2, 44), (2, 45), (2, 46), (2, 47), (2, 48), (2, 49), (2, 50), (2, 51), (2, 52), (2, 53), (2, 54), (2, 55), (2, 56), (2, 57), (2, 58)] rfl rfl
set_option maxRecDepth 20000 in
theorem gX12_become_X12_isKeeper : GoodIn wsX12_become (wsV RX12 166 RX12 yX12_isKeeper wsX12_isKeeper) := goodIn_app (goodIn_r2 csX12_become ciX12_become _ [(1, 4), (1, 5), (1, 6), (1, 7)] rfl rfl) ggX12_become_X12_isKeeper
theorem daX12_become_R70 : ([(0, .aload_n 0, 1), (1, .iload_n 1, 1), (2, .invokevirtual 166, 3), (5, .ifCond .eq 13, 3), (18, .iconst (-1), 1), (19, .ireturn, 1)] : List (Nat × Instr × Nat)).all (fun x => decide (decode cX12_become x.1 = .ok x.2)) = true := by decide +kernel
theorem dX12_become_0 : decode cX12_become 0 = .ok (.aload_n 0, 1) := dq_at daX12_become_R70 (i := 0) rfl
theorem dX12_become_1 : decode cX12_become 1 = .ok (.iload_n 1, 1) := dq_at daX12_become_R70 (i := 1) rfl
theorem dX12_become_2 : decode cX12_become 2 = .ok (.invokevirtual 166, 3) := dq_at daX12_become_R70 (i := 2) rfl
theorem dX12_become_5 : decode cX12_become 5 = .ok (.ifCond .eq 13, 3) := dq_at daX12_become_R70 (i := 3) rfl
theorem dX12_become_18 : decode cX12_become 18 = .ok (.iconst (-1), 1) := dq_at daX12_become_R70 (i := 4) rfl
theorem dX12_become_19 : decode cX12_become 19 = .ok (.ireturn, 1) := dq_at daX12_become_R70 (i := 5) rfl
noncomputable def csX12_strength : List (List Cond) := [[Cond.code yX12_strength cX12_strength 4 (some .int)], [Cond.fieldLink RX12 19 "SeatsRoundModel" "strength" "[I", Cond.methodLink RX12 166 yX12_isKeeper, Cond.instanceMethod yX12_isKeeper, Cond.selects RX12 yX12_isKeeper yX12_isKeeper, Cond.initialized RX12, Cond.code yX12_isKeeper cX12_isKeeper 2 (some .boolean), Cond.fieldLink RX12 140 "SeatsRoundModel" "keepers" "I", Cond.methodLink RX12 136 yX12_in, Cond.static yX12_in, Cond.code yX12_in cX12_in 3 (some .boolean)], wsX120]
set_option maxRecDepth 20000 in
theorem ciX12_strength : ∀ l ∈ csX12_strength, ∀ w ∈ l, w ∈ wsX12_strength := by
  unfold csX12_strength
  refine List.forall_mem_cons.mpr ⟨fun _ h => List.mem_cons.mpr (Or.inl (List.mem_singleton.mp h)), List.forall_mem_cons.mpr ⟨fun _ h => List.mem_cons_of_mem _ (List.mem_append_left _ h), List.forall_mem_cons.mpr ⟨fun _ h => List.mem_cons_of_mem _ (List.mem_append_right _ h), fun l h => absurd h List.not_mem_nil⟩⟩⟩
set_option maxRecDepth 20000 in
theorem ggX12_strength_X12_isKeeper : GoodIn wsX12_strength wsX12_isKeeper := goodIn_r2 csX12_strength ciX12_strength _ [(1, 5), (1, 6), (1, 7), (1, 8), (1, 4), (1, 9), (2, 0), (2, 1), (2, 2), (2, 3), (2, 4), (2, 5), (2, 6), (2, 7), (2, 8), (2, 9), (2, 10), (2, 11), (2, 12), (2, 13), (2, 14), (2, 15), (2, 16), (2, 17), (2, 18), (2, 19), (2, 20), (2, 21), (2, 22), (2, 23), (2, 24), (2, 25), (2, 26), (2, 27), (2, 28), (2, 29), (2, 30), (2, 31), (2, 32), (2, 33), (2, 34), (2, 35), (2, 36), (2, 37), (2, 38), (2, 39), (2, 40), (2, 41), (2, 42), (2, 43), (2, 44), (2, 45), (2, 46), (2, 47), (2, 48), (2, 49), (2, 50), (2, 51), (2, 52), (2, 53), (2, 54), (2, 55), (2, 56), (2, 57), (2, 58)] rfl rfl
set_option maxRecDepth 20000 in
theorem gX12_strength_X12_isKeeper : GoodIn wsX12_strength (wsV RX12 166 RX12 yX12_isKeeper wsX12_isKeeper) := goodIn_app (goodIn_r2 csX12_strength ciX12_strength _ [(1, 1), (1, 2), (1, 3), (1, 4)] rfl rfl) ggX12_strength_X12_isKeeper
theorem daX12_strength_R71 : ([(0, .aload_n 0, 1), (1, .iload_n 1, 1), (2, .invokevirtual 166, 3), (5, .ifCond .eq 13, 3), (18, .iconst (-1), 1), (19, .ireturn, 1)] : List (Nat × Instr × Nat)).all (fun x => decide (decode cX12_strength x.1 = .ok x.2)) = true := by decide +kernel
theorem dX12_strength_0 : decode cX12_strength 0 = .ok (.aload_n 0, 1) := dq_at daX12_strength_R71 (i := 0) rfl
theorem dX12_strength_1 : decode cX12_strength 1 = .ok (.iload_n 1, 1) := dq_at daX12_strength_R71 (i := 1) rfl
theorem dX12_strength_2 : decode cX12_strength 2 = .ok (.invokevirtual 166, 3) := dq_at daX12_strength_R71 (i := 2) rfl
theorem dX12_strength_5 : decode cX12_strength 5 = .ok (.ifCond .eq 13, 3) := dq_at daX12_strength_R71 (i := 3) rfl
theorem dX12_strength_18 : decode cX12_strength 18 = .ok (.iconst (-1), 1) := dq_at daX12_strength_R71 (i := 4) rfl
theorem dX12_strength_19 : decode cX12_strength 19 = .ok (.ireturn, 1) := dq_at daX12_strength_R71 (i := 5) rfl
noncomputable def csX12_ofKeeper : List (List Cond) := [[Cond.code yX12_ofKeeper cX12_ofKeeper 3 (some .int)], wsX12_ofKeeper_r1, wsX12_ofKeeper_r2, wsX120]
set_option maxRecDepth 20000 in
theorem ciX12_ofKeeper : ∀ l ∈ csX12_ofKeeper, ∀ w ∈ l, w ∈ wsX12_ofKeeper := by
  unfold csX12_ofKeeper
  refine List.forall_mem_cons.mpr ⟨fun _ h => List.mem_cons.mpr (Or.inl (List.mem_singleton.mp h)), List.forall_mem_cons.mpr ⟨fun _ h => List.mem_cons_of_mem _ (List.mem_append_left _ (List.mem_append_left _ h)), List.forall_mem_cons.mpr ⟨fun _ h => List.mem_cons_of_mem _ (List.mem_append_left _ (List.mem_append_right _ h)), List.forall_mem_cons.mpr ⟨fun _ h => List.mem_cons_of_mem _ (List.mem_append_right _ h), fun l h => absurd h List.not_mem_nil⟩⟩⟩⟩
set_option maxRecDepth 20000 in
theorem ggX12_ofKeeper_X12_isKeeper : GoodIn wsX12_ofKeeper wsX12_isKeeper := goodIn_r2 csX12_ofKeeper ciX12_ofKeeper _ [(1, 10), (1, 11), (1, 12), (1, 13), (1, 9), (1, 14), (3, 0), (3, 1), (3, 2), (3, 3), (3, 4), (3, 5), (3, 6), (3, 7), (3, 8), (3, 9), (3, 10), (3, 11), (3, 12), (3, 13), (3, 14), (3, 15), (3, 16), (3, 17), (3, 18), (3, 19), (3, 20), (3, 21), (3, 22), (3, 23), (3, 24), (3, 25), (3, 26), (3, 27), (3, 28), (3, 29), (3, 30), (3, 31), (3, 32), (3, 33), (3, 34), (3, 35), (3, 36), (3, 37), (3, 38), (3, 39), (3, 40), (3, 41), (3, 42), (3, 43), (3, 44), (3, 45), (3, 46), (3, 47), (3, 48), (3, 49), (3, 50), (3, 51), (3, 52), (3, 53), (3, 54), (3, 55), (3, 56), (3, 57), (3, 58)] rfl rfl
set_option maxRecDepth 20000 in
theorem gX12_ofKeeper_X12_isKeeper : GoodIn wsX12_ofKeeper (wsV RX12 166 RX12 yX12_isKeeper wsX12_isKeeper) := goodIn_app (goodIn_r2 csX12_ofKeeper ciX12_ofKeeper _ [(1, 6), (1, 7), (1, 8), (1, 9)] rfl rfl) ggX12_ofKeeper_X12_isKeeper
theorem daX12_ofKeeper_R72 : ([(0, .aload_n 0, 1), (1, .iload_n 1, 1), (2, .invokevirtual 166, 3), (5, .ifCond .ne 6, 3), (8, .ldc 169, 2), (10, .ireturn, 1)] : List (Nat × Instr × Nat)).all (fun x => decide (decode cX12_ofKeeper x.1 = .ok x.2)) = true := by decide +kernel
theorem dX12_ofKeeper_0 : decode cX12_ofKeeper 0 = .ok (.aload_n 0, 1) := dq_at daX12_ofKeeper_R72 (i := 0) rfl
theorem dX12_ofKeeper_1 : decode cX12_ofKeeper 1 = .ok (.iload_n 1, 1) := dq_at daX12_ofKeeper_R72 (i := 1) rfl
theorem dX12_ofKeeper_2 : decode cX12_ofKeeper 2 = .ok (.invokevirtual 166, 3) := dq_at daX12_ofKeeper_R72 (i := 2) rfl
theorem dX12_ofKeeper_5 : decode cX12_ofKeeper 5 = .ok (.ifCond .ne 6, 3) := dq_at daX12_ofKeeper_R72 (i := 3) rfl
theorem dX12_ofKeeper_8 : decode cX12_ofKeeper 8 = .ok (.ldc 169, 2) := dq_at daX12_ofKeeper_R72 (i := 4) rfl
theorem dX12_ofKeeper_10 : decode cX12_ofKeeper 10 = .ok (.ireturn, 1) := dq_at daX12_ofKeeper_R72 (i := 5) rfl
theorem daX12_table_R73 : ([(0, .iload_n 1, 1), (1, .ifCond .le 13, 3), (4, .iload_n 1, 1), (5, .iconst 1, 1), (6, .aload_n 0, 1), (7, .getfield 140, 3), (10, .ishl, 1), (11, .if_icmp .lt 5, 3), (14, .iconst (-1), 1), (15, .ireturn, 1)] : List (Nat × Instr × Nat)).all (fun x => decide (decode cX12_table x.1 = .ok x.2)) = true := by decide +kernel
theorem dX12_table_0 : decode cX12_table 0 = .ok (.iload_n 1, 1) := dq_at daX12_table_R73 (i := 0) rfl
theorem dX12_table_1 : decode cX12_table 1 = .ok (.ifCond .le 13, 3) := dq_at daX12_table_R73 (i := 1) rfl
theorem dX12_table_4 : decode cX12_table 4 = .ok (.iload_n 1, 1) := dq_at daX12_table_R73 (i := 2) rfl
theorem dX12_table_5 : decode cX12_table 5 = .ok (.iconst 1, 1) := dq_at daX12_table_R73 (i := 3) rfl
theorem dX12_table_6 : decode cX12_table 6 = .ok (.aload_n 0, 1) := dq_at daX12_table_R73 (i := 4) rfl
theorem dX12_table_7 : decode cX12_table 7 = .ok (.getfield 140, 3) := dq_at daX12_table_R73 (i := 5) rfl
theorem dX12_table_10 : decode cX12_table 10 = .ok (.ishl, 1) := dq_at daX12_table_R73 (i := 6) rfl
theorem dX12_table_11 : decode cX12_table 11 = .ok (.if_icmp .lt 5, 3) := dq_at daX12_table_R73 (i := 7) rfl
theorem dX12_table_14 : decode cX12_table 14 = .ok (.iconst (-1), 1) := dq_at daX12_table_R73 (i := 8) rfl
theorem dX12_table_15 : decode cX12_table 15 = .ok (.ireturn, 1) := dq_at daX12_table_R73 (i := 9) rfl
noncomputable def csX12_seat : List (List Cond) := [[Cond.code yX12_seat cX12_seat 3 (some .int)], [Cond.fieldLink RX12 62 "SeatsRoundModel" "seats" "[I", Cond.methodLink RX12 266 yX12_isTable, Cond.instanceMethod yX12_isTable, Cond.selects RX12 yX12_isTable yX12_isTable, Cond.initialized RX12, Cond.code yX12_isTable cX12_isTable 2 (some .boolean), Cond.fieldLink RX12 143 "SeatsRoundModel" "tables" "I", Cond.methodLink RX12 136 yX12_in, Cond.static yX12_in, Cond.code yX12_in cX12_in 3 (some .boolean)], wsX120]
set_option maxRecDepth 20000 in
theorem ciX12_seat : ∀ l ∈ csX12_seat, ∀ w ∈ l, w ∈ wsX12_seat := by
  unfold csX12_seat
  refine List.forall_mem_cons.mpr ⟨fun _ h => List.mem_cons.mpr (Or.inl (List.mem_singleton.mp h)), List.forall_mem_cons.mpr ⟨fun _ h => List.mem_cons_of_mem _ (List.mem_append_left _ h), List.forall_mem_cons.mpr ⟨fun _ h => List.mem_cons_of_mem _ (List.mem_append_right _ h), fun l h => absurd h List.not_mem_nil⟩⟩⟩
set_option maxRecDepth 20000 in
theorem ggX12_seat_X12_isTable : GoodIn wsX12_seat wsX12_isTable := goodIn_r2 csX12_seat ciX12_seat _ [(1, 5), (1, 6), (1, 7), (1, 8), (1, 4), (1, 9), (2, 0), (2, 1), (2, 2), (2, 3), (2, 4), (2, 5), (2, 6), (2, 7), (2, 8), (2, 9), (2, 10), (2, 11), (2, 12), (2, 13), (2, 14), (2, 15), (2, 16), (2, 17), (2, 18), (2, 19), (2, 20), (2, 21), (2, 22), (2, 23), (2, 24), (2, 25), (2, 26), (2, 27), (2, 28), (2, 29), (2, 30), (2, 31), (2, 32), (2, 33), (2, 34), (2, 35), (2, 36), (2, 37), (2, 38), (2, 39), (2, 40), (2, 41), (2, 42), (2, 43), (2, 44), (2, 45), (2, 46), (2, 47), (2, 48), (2, 49), (2, 50), (2, 51), (2, 52), (2, 53), (2, 54), (2, 55), (2, 56), (2, 57), (2, 58)] rfl rfl
set_option maxRecDepth 20000 in
theorem gX12_seat_X12_isTable : GoodIn wsX12_seat (wsV RX12 266 RX12 yX12_isTable wsX12_isTable) := goodIn_app (goodIn_r2 csX12_seat ciX12_seat _ [(1, 1), (1, 2), (1, 3), (1, 4)] rfl rfl) ggX12_seat_X12_isTable
theorem daX12_seat_R74 : ([(0, .aload_n 0, 1), (1, .iload_n 1, 1), (2, .invokevirtual 266, 3), (5, .ifCond .eq 14, 3), (19, .iconst (-1), 1), (20, .goto 36, 3), (56, .ireturn, 1)] : List (Nat × Instr × Nat)).all (fun x => decide (decode cX12_seat x.1 = .ok x.2)) = true := by decide +kernel
theorem dX12_seat_0 : decode cX12_seat 0 = .ok (.aload_n 0, 1) := dq_at daX12_seat_R74 (i := 0) rfl
theorem dX12_seat_1 : decode cX12_seat 1 = .ok (.iload_n 1, 1) := dq_at daX12_seat_R74 (i := 1) rfl
theorem dX12_seat_2 : decode cX12_seat 2 = .ok (.invokevirtual 266, 3) := dq_at daX12_seat_R74 (i := 2) rfl
theorem dX12_seat_5 : decode cX12_seat 5 = .ok (.ifCond .eq 14, 3) := dq_at daX12_seat_R74 (i := 3) rfl
theorem dX12_seat_19 : decode cX12_seat 19 = .ok (.iconst (-1), 1) := dq_at daX12_seat_R74 (i := 4) rfl
theorem dX12_seat_20 : decode cX12_seat 20 = .ok (.goto 36, 3) := dq_at daX12_seat_R74 (i := 5) rfl
theorem dX12_seat_56 : decode cX12_seat 56 = .ok (.ireturn, 1) := dq_at daX12_seat_R74 (i := 6) rfl
noncomputable def csX12_picked : List (List Cond) := [[Cond.code yX12_picked cX12_picked 4 (some .int)], wsX12_picked_r1, wsX12_picked_r2, wsX120]
set_option maxRecDepth 20000 in
theorem ciX12_picked : ∀ l ∈ csX12_picked, ∀ w ∈ l, w ∈ wsX12_picked := by
  unfold csX12_picked
  refine List.forall_mem_cons.mpr ⟨fun _ h => List.mem_cons.mpr (Or.inl (List.mem_singleton.mp h)), List.forall_mem_cons.mpr ⟨fun _ h => List.mem_cons_of_mem _ (List.mem_append_left _ (List.mem_append_left _ h)), List.forall_mem_cons.mpr ⟨fun _ h => List.mem_cons_of_mem _ (List.mem_append_left _ (List.mem_append_right _ h)), List.forall_mem_cons.mpr ⟨fun _ h => List.mem_cons_of_mem _ (List.mem_append_right _ h), fun l h => absurd h List.not_mem_nil⟩⟩⟩⟩
set_option maxRecDepth 20000 in
theorem ggX12_picked_X12_isTable : GoodIn wsX12_picked wsX12_isTable := goodIn_r2 csX12_picked ciX12_picked _ [(1, 6), (1, 7), (1, 8), (1, 9), (1, 5), (1, 10), (3, 0), (3, 1), (3, 2), (3, 3), (3, 4), (3, 5), (3, 6), (3, 7), (3, 8), (3, 9), (3, 10), (3, 11), (3, 12), (3, 13), (3, 14), (3, 15), (3, 16), (3, 17), (3, 18), (3, 19), (3, 20), (3, 21), (3, 22), (3, 23), (3, 24), (3, 25), (3, 26), (3, 27), (3, 28), (3, 29), (3, 30), (3, 31), (3, 32), (3, 33), (3, 34), (3, 35), (3, 36), (3, 37), (3, 38), (3, 39), (3, 40), (3, 41), (3, 42), (3, 43), (3, 44), (3, 45), (3, 46), (3, 47), (3, 48), (3, 49), (3, 50), (3, 51), (3, 52), (3, 53), (3, 54), (3, 55), (3, 56), (3, 57), (3, 58)] rfl rfl
set_option maxRecDepth 20000 in
theorem gX12_picked_X12_isTable : GoodIn wsX12_picked (wsV RX12 266 RX12 yX12_isTable wsX12_isTable) := goodIn_app (goodIn_r2 csX12_picked ciX12_picked _ [(1, 2), (1, 3), (1, 4), (1, 5)] rfl rfl) ggX12_picked_X12_isTable
theorem daX12_picked_R75 : ([(0, .aload_n 0, 1), (1, .iload_n 1, 1), (2, .invokevirtual 266, 3), (5, .ifCond .eq 14, 3), (19, .iconst (-1), 1), (20, .ireturn, 1)] : List (Nat × Instr × Nat)).all (fun x => decide (decode cX12_picked x.1 = .ok x.2)) = true := by decide +kernel
theorem dX12_picked_0 : decode cX12_picked 0 = .ok (.aload_n 0, 1) := dq_at daX12_picked_R75 (i := 0) rfl
theorem dX12_picked_1 : decode cX12_picked 1 = .ok (.iload_n 1, 1) := dq_at daX12_picked_R75 (i := 1) rfl
theorem dX12_picked_2 : decode cX12_picked 2 = .ok (.invokevirtual 266, 3) := dq_at daX12_picked_R75 (i := 2) rfl
theorem dX12_picked_5 : decode cX12_picked 5 = .ok (.ifCond .eq 14, 3) := dq_at daX12_picked_R75 (i := 3) rfl
theorem dX12_picked_19 : decode cX12_picked 19 = .ok (.iconst (-1), 1) := dq_at daX12_picked_R75 (i := 4) rfl
theorem dX12_picked_20 : decode cX12_picked 20 = .ok (.ireturn, 1) := dq_at daX12_picked_R75 (i := 5) rfl
noncomputable def csX12_keeperOf : List (List Cond) := [[Cond.code yX12_keeperOf cX12_keeperOf 4 (some .int)], wsX12_keeperOf_r1, wsX12_keeperOf_r2, wsX12_keeperOf_r3, wsX120]
set_option maxRecDepth 20000 in
theorem ciX12_keeperOf : ∀ l ∈ csX12_keeperOf, ∀ w ∈ l, w ∈ wsX12_keeperOf := by
  unfold csX12_keeperOf
  refine List.forall_mem_cons.mpr ⟨fun _ h => List.mem_cons.mpr (Or.inl (List.mem_singleton.mp h)), List.forall_mem_cons.mpr ⟨fun _ h => List.mem_cons_of_mem _ (List.mem_append_left _ (List.mem_append_left _ h)), List.forall_mem_cons.mpr ⟨fun _ h => List.mem_cons_of_mem _ (List.mem_append_left _ (List.mem_append_right _ (List.mem_append_left _ h))), List.forall_mem_cons.mpr ⟨fun _ h => List.mem_cons_of_mem _ (List.mem_append_left _ (List.mem_append_right _ (List.mem_append_right _ h))), List.forall_mem_cons.mpr ⟨fun _ h => List.mem_cons_of_mem _ (List.mem_append_right _ h), fun l h => absurd h List.not_mem_nil⟩⟩⟩⟩⟩
set_option maxRecDepth 20000 in
theorem ggX12_keeperOf_X12_isTable : GoodIn wsX12_keeperOf wsX12_isTable := goodIn_r2 csX12_keeperOf ciX12_keeperOf _ [(1, 6), (1, 7), (1, 8), (1, 9), (1, 5), (1, 10), (4, 0), (4, 1), (4, 2), (4, 3), (4, 4), (4, 5), (4, 6), (4, 7), (4, 8), (4, 9), (4, 10), (4, 11), (4, 12), (4, 13), (4, 14), (4, 15), (4, 16), (4, 17), (4, 18), (4, 19), (4, 20), (4, 21), (4, 22), (4, 23), (4, 24), (4, 25), (4, 26), (4, 27), (4, 28), (4, 29), (4, 30), (4, 31), (4, 32), (4, 33), (4, 34), (4, 35), (4, 36), (4, 37), (4, 38), (4, 39), (4, 40), (4, 41), (4, 42), (4, 43), (4, 44), (4, 45), (4, 46), (4, 47), (4, 48), (4, 49), (4, 50), (4, 51), (4, 52), (4, 53), (4, 54), (4, 55), (4, 56), (4, 57), (4, 58)] rfl rfl
set_option maxRecDepth 20000 in
theorem gX12_keeperOf_X12_isTable : GoodIn wsX12_keeperOf (wsV RX12 266 RX12 yX12_isTable wsX12_isTable) := goodIn_app (goodIn_r2 csX12_keeperOf ciX12_keeperOf _ [(1, 2), (1, 3), (1, 4), (1, 5)] rfl rfl) ggX12_keeperOf_X12_isTable
theorem daX12_keeperOf_R76 : ([(0, .aload_n 0, 1), (1, .iload_n 1, 1), (2, .invokevirtual 266, 3), (5, .ifCond .eq 11, 3), (16, .iconst (-1), 1), (17, .ireturn, 1)] : List (Nat × Instr × Nat)).all (fun x => decide (decode cX12_keeperOf x.1 = .ok x.2)) = true := by decide +kernel
theorem dX12_keeperOf_0 : decode cX12_keeperOf 0 = .ok (.aload_n 0, 1) := dq_at daX12_keeperOf_R76 (i := 0) rfl
theorem dX12_keeperOf_1 : decode cX12_keeperOf 1 = .ok (.iload_n 1, 1) := dq_at daX12_keeperOf_R76 (i := 1) rfl
theorem dX12_keeperOf_2 : decode cX12_keeperOf 2 = .ok (.invokevirtual 266, 3) := dq_at daX12_keeperOf_R76 (i := 2) rfl
theorem dX12_keeperOf_5 : decode cX12_keeperOf 5 = .ok (.ifCond .eq 11, 3) := dq_at daX12_keeperOf_R76 (i := 3) rfl
theorem dX12_keeperOf_16 : decode cX12_keeperOf 16 = .ok (.iconst (-1), 1) := dq_at daX12_keeperOf_R76 (i := 4) rfl
theorem dX12_keeperOf_17 : decode cX12_keeperOf 17 = .ok (.ireturn, 1) := dq_at daX12_keeperOf_R76 (i := 5) rfl
noncomputable def csX12_tooFew : List (List Cond) := [[Cond.code yX12_tooFew cX12_tooFew 4 (some .int)], wsX12_tooFew_r1, wsX12_tooFew_r2, wsX12_tooFew_r3, wsX120]
set_option maxRecDepth 20000 in
theorem ciX12_tooFew : ∀ l ∈ csX12_tooFew, ∀ w ∈ l, w ∈ wsX12_tooFew := by
  unfold csX12_tooFew
  refine List.forall_mem_cons.mpr ⟨fun _ h => List.mem_cons.mpr (Or.inl (List.mem_singleton.mp h)), List.forall_mem_cons.mpr ⟨fun _ h => List.mem_cons_of_mem _ (List.mem_append_left _ (List.mem_append_left _ h)), List.forall_mem_cons.mpr ⟨fun _ h => List.mem_cons_of_mem _ (List.mem_append_left _ (List.mem_append_right _ (List.mem_append_left _ h))), List.forall_mem_cons.mpr ⟨fun _ h => List.mem_cons_of_mem _ (List.mem_append_left _ (List.mem_append_right _ (List.mem_append_right _ h))), List.forall_mem_cons.mpr ⟨fun _ h => List.mem_cons_of_mem _ (List.mem_append_right _ h), fun l h => absurd h List.not_mem_nil⟩⟩⟩⟩⟩
set_option maxRecDepth 20000 in
theorem ggX12_tooFew_X12_isTable : GoodIn wsX12_tooFew wsX12_isTable := goodIn_r2 csX12_tooFew ciX12_tooFew _ [(1, 6), (1, 7), (1, 8), (1, 9), (1, 5), (1, 10), (4, 0), (4, 1), (4, 2), (4, 3), (4, 4), (4, 5), (4, 6), (4, 7), (4, 8), (4, 9), (4, 10), (4, 11), (4, 12), (4, 13), (4, 14), (4, 15), (4, 16), (4, 17), (4, 18), (4, 19), (4, 20), (4, 21), (4, 22), (4, 23), (4, 24), (4, 25), (4, 26), (4, 27), (4, 28), (4, 29), (4, 30), (4, 31), (4, 32), (4, 33), (4, 34), (4, 35), (4, 36), (4, 37), (4, 38), (4, 39), (4, 40), (4, 41), (4, 42), (4, 43), (4, 44), (4, 45), (4, 46), (4, 47), (4, 48), (4, 49), (4, 50), (4, 51), (4, 52), (4, 53), (4, 54), (4, 55), (4, 56), (4, 57), (4, 58)] rfl rfl
set_option maxRecDepth 20000 in
theorem gX12_tooFew_X12_isTable : GoodIn wsX12_tooFew (wsV RX12 266 RX12 yX12_isTable wsX12_isTable) := goodIn_app (goodIn_r2 csX12_tooFew ciX12_tooFew _ [(1, 2), (1, 3), (1, 4), (1, 5)] rfl rfl) ggX12_tooFew_X12_isTable
theorem daX12_tooFew_R77 : ([(0, .aload_n 0, 1), (1, .iload_n 1, 1), (2, .invokevirtual 266, 3), (5, .ifCond .ne 5, 3), (8, .iconst (-1), 1), (9, .ireturn, 1)] : List (Nat × Instr × Nat)).all (fun x => decide (decode cX12_tooFew x.1 = .ok x.2)) = true := by decide +kernel
theorem dX12_tooFew_0 : decode cX12_tooFew 0 = .ok (.aload_n 0, 1) := dq_at daX12_tooFew_R77 (i := 0) rfl
theorem dX12_tooFew_1 : decode cX12_tooFew 1 = .ok (.iload_n 1, 1) := dq_at daX12_tooFew_R77 (i := 1) rfl
theorem dX12_tooFew_2 : decode cX12_tooFew 2 = .ok (.invokevirtual 266, 3) := dq_at daX12_tooFew_R77 (i := 2) rfl
theorem dX12_tooFew_5 : decode cX12_tooFew 5 = .ok (.ifCond .ne 5, 3) := dq_at daX12_tooFew_R77 (i := 3) rfl
theorem dX12_tooFew_8 : decode cX12_tooFew 8 = .ok (.iconst (-1), 1) := dq_at daX12_tooFew_R77 (i := 4) rfl
theorem dX12_tooFew_9 : decode cX12_tooFew 9 = .ok (.ireturn, 1) := dq_at daX12_tooFew_R77 (i := 5) rfl
noncomputable def csX12_share : List (List Cond) := [[Cond.code yX12_share cX12_share 4 (some .int)], wsX12_share_r1, wsX12_share_r2, wsX12_share_r3, wsX120]
set_option maxRecDepth 20000 in
theorem ciX12_share : ∀ l ∈ csX12_share, ∀ w ∈ l, w ∈ wsX12_share := by
  unfold csX12_share
  refine List.forall_mem_cons.mpr ⟨fun _ h => List.mem_cons.mpr (Or.inl (List.mem_singleton.mp h)), List.forall_mem_cons.mpr ⟨fun _ h => List.mem_cons_of_mem _ (List.mem_append_left _ (List.mem_append_left _ h)), List.forall_mem_cons.mpr ⟨fun _ h => List.mem_cons_of_mem _ (List.mem_append_left _ (List.mem_append_right _ (List.mem_append_left _ h))), List.forall_mem_cons.mpr ⟨fun _ h => List.mem_cons_of_mem _ (List.mem_append_left _ (List.mem_append_right _ (List.mem_append_right _ h))), List.forall_mem_cons.mpr ⟨fun _ h => List.mem_cons_of_mem _ (List.mem_append_right _ h), fun l h => absurd h List.not_mem_nil⟩⟩⟩⟩⟩
set_option maxRecDepth 20000 in
theorem ggX12_share_X12_isTable : GoodIn wsX12_share wsX12_isTable := goodIn_r2 csX12_share ciX12_share _ [(1, 5), (1, 6), (1, 7), (1, 8), (1, 4), (1, 9), (4, 0), (4, 1), (4, 2), (4, 3), (4, 4), (4, 5), (4, 6), (4, 7), (4, 8), (4, 9), (4, 10), (4, 11), (4, 12), (4, 13), (4, 14), (4, 15), (4, 16), (4, 17), (4, 18), (4, 19), (4, 20), (4, 21), (4, 22), (4, 23), (4, 24), (4, 25), (4, 26), (4, 27), (4, 28), (4, 29), (4, 30), (4, 31), (4, 32), (4, 33), (4, 34), (4, 35), (4, 36), (4, 37), (4, 38), (4, 39), (4, 40), (4, 41), (4, 42), (4, 43), (4, 44), (4, 45), (4, 46), (4, 47), (4, 48), (4, 49), (4, 50), (4, 51), (4, 52), (4, 53), (4, 54), (4, 55), (4, 56), (4, 57), (4, 58)] rfl rfl
set_option maxRecDepth 20000 in
theorem gX12_share_X12_isTable : GoodIn wsX12_share (wsV RX12 266 RX12 yX12_isTable wsX12_isTable) := goodIn_app (goodIn_r2 csX12_share ciX12_share _ [(1, 1), (1, 2), (1, 3), (1, 4)] rfl rfl) ggX12_share_X12_isTable
theorem daX12_share_R78 : ([(0, .aload_n 0, 1), (1, .iload_n 1, 1), (2, .invokevirtual 266, 3), (5, .ifCond .eq 20, 3), (25, .iconst (-1), 1), (26, .ireturn, 1)] : List (Nat × Instr × Nat)).all (fun x => decide (decode cX12_share x.1 = .ok x.2)) = true := by decide +kernel
theorem dX12_share_0 : decode cX12_share 0 = .ok (.aload_n 0, 1) := dq_at daX12_share_R78 (i := 0) rfl
theorem dX12_share_1 : decode cX12_share 1 = .ok (.iload_n 1, 1) := dq_at daX12_share_R78 (i := 1) rfl
theorem dX12_share_2 : decode cX12_share 2 = .ok (.invokevirtual 266, 3) := dq_at daX12_share_R78 (i := 2) rfl
theorem dX12_share_5 : decode cX12_share 5 = .ok (.ifCond .eq 20, 3) := dq_at daX12_share_R78 (i := 3) rfl
theorem dX12_share_25 : decode cX12_share 25 = .ok (.iconst (-1), 1) := dq_at daX12_share_R78 (i := 4) rfl
theorem dX12_share_26 : decode cX12_share 26 = .ok (.ireturn, 1) := dq_at daX12_share_R78 (i := 5) rfl
noncomputable def csX12_ofTable : List (List Cond) := [[Cond.code yX12_ofTable cX12_ofTable 3 (some .int)], wsX12_ofTable_r1, wsX12_ofTable_r2, wsX12_ofTable_r3, wsX120]
set_option maxRecDepth 20000 in
theorem ciX12_ofTable : ∀ l ∈ csX12_ofTable, ∀ w ∈ l, w ∈ wsX12_ofTable := by
  unfold csX12_ofTable
  refine List.forall_mem_cons.mpr ⟨fun _ h => List.mem_cons.mpr (Or.inl (List.mem_singleton.mp h)), List.forall_mem_cons.mpr ⟨fun _ h => List.mem_cons_of_mem _ (List.mem_append_left _ (List.mem_append_left _ h)), List.forall_mem_cons.mpr ⟨fun _ h => List.mem_cons_of_mem _ (List.mem_append_left _ (List.mem_append_right _ (List.mem_append_left _ h))), List.forall_mem_cons.mpr ⟨fun _ h => List.mem_cons_of_mem _ (List.mem_append_left _ (List.mem_append_right _ (List.mem_append_right _ h))), List.forall_mem_cons.mpr ⟨fun _ h => List.mem_cons_of_mem _ (List.mem_append_right _ h), fun l h => absurd h List.not_mem_nil⟩⟩⟩⟩⟩
set_option maxRecDepth 20000 in
theorem ggX12_ofTable_X12_isTable : GoodIn wsX12_ofTable wsX12_isTable := goodIn_r2 csX12_ofTable ciX12_ofTable _ [(1, 9), (1, 10), (1, 11), (1, 12), (1, 8), (1, 13), (4, 0), (4, 1), (4, 2), (4, 3), (4, 4), (4, 5), (4, 6), (4, 7), (4, 8), (4, 9), (4, 10), (4, 11), (4, 12), (4, 13), (4, 14), (4, 15), (4, 16), (4, 17), (4, 18), (4, 19), (4, 20), (4, 21), (4, 22), (4, 23), (4, 24), (4, 25), (4, 26), (4, 27), (4, 28), (4, 29), (4, 30), (4, 31), (4, 32), (4, 33), (4, 34), (4, 35), (4, 36), (4, 37), (4, 38), (4, 39), (4, 40), (4, 41), (4, 42), (4, 43), (4, 44), (4, 45), (4, 46), (4, 47), (4, 48), (4, 49), (4, 50), (4, 51), (4, 52), (4, 53), (4, 54), (4, 55), (4, 56), (4, 57), (4, 58)] rfl rfl
set_option maxRecDepth 20000 in
theorem gX12_ofTable_X12_isTable : GoodIn wsX12_ofTable (wsV RX12 266 RX12 yX12_isTable wsX12_isTable) := goodIn_app (goodIn_r2 csX12_ofTable ciX12_ofTable _ [(1, 5), (1, 6), (1, 7), (1, 8)] rfl rfl) ggX12_ofTable_X12_isTable
theorem daX12_ofTable_R79 : ([(0, .aload_n 0, 1), (1, .iload_n 1, 1), (2, .invokevirtual 266, 3), (5, .ifCond .ne 5, 3), (8, .iconst (-1), 1), (9, .ireturn, 1)] : List (Nat × Instr × Nat)).all (fun x => decide (decode cX12_ofTable x.1 = .ok x.2)) = true := by decide +kernel
theorem dX12_ofTable_0 : decode cX12_ofTable 0 = .ok (.aload_n 0, 1) := dq_at daX12_ofTable_R79 (i := 0) rfl
theorem dX12_ofTable_1 : decode cX12_ofTable 1 = .ok (.iload_n 1, 1) := dq_at daX12_ofTable_R79 (i := 1) rfl
theorem dX12_ofTable_2 : decode cX12_ofTable 2 = .ok (.invokevirtual 266, 3) := dq_at daX12_ofTable_R79 (i := 2) rfl
theorem dX12_ofTable_5 : decode cX12_ofTable 5 = .ok (.ifCond .ne 5, 3) := dq_at daX12_ofTable_R79 (i := 3) rfl
theorem dX12_ofTable_8 : decode cX12_ofTable 8 = .ok (.iconst (-1), 1) := dq_at daX12_ofTable_R79 (i := 4) rfl
theorem dX12_ofTable_9 : decode cX12_ofTable 9 = .ok (.ireturn, 1) := dq_at daX12_ofTable_R79 (i := 5) rfl
noncomputable def csX12_moves : List (List Cond) := [[Cond.code yX12_moves cX12_moves 10 (some .int)], wsX12_moves_r1, wsX12_moves_r2, wsX12_moves_r3, wsX12_moves_r4, wsX120]
set_option maxRecDepth 20000 in
theorem ciX12_moves : ∀ l ∈ csX12_moves, ∀ w ∈ l, w ∈ wsX12_moves := by
  unfold csX12_moves
  refine List.forall_mem_cons.mpr ⟨fun _ h => List.mem_cons.mpr (Or.inl (List.mem_singleton.mp h)), List.forall_mem_cons.mpr ⟨fun _ h => List.mem_cons_of_mem _ (List.mem_append_left _ (List.mem_append_left _ h)), List.forall_mem_cons.mpr ⟨fun _ h => List.mem_cons_of_mem _ (List.mem_append_left _ (List.mem_append_right _ (List.mem_append_left _ h))), List.forall_mem_cons.mpr ⟨fun _ h => List.mem_cons_of_mem _ (List.mem_append_left _ (List.mem_append_right _ (List.mem_append_right _ (List.mem_append_left _ h)))), List.forall_mem_cons.mpr ⟨fun _ h => List.mem_cons_of_mem _ (List.mem_append_left _ (List.mem_append_right _ (List.mem_append_right _ (List.mem_append_right _ h)))), List.forall_mem_cons.mpr ⟨fun _ h => List.mem_cons_of_mem _ (List.mem_append_right _ h), fun l h => absurd h List.not_mem_nil⟩⟩⟩⟩⟩⟩
set_option maxRecDepth 20000 in
theorem ggX12_moves_X12_isTable : GoodIn wsX12_moves wsX12_isTable := goodIn_r2 csX12_moves ciX12_moves _ [(1, 7), (1, 8), (1, 9), (1, 10), (1, 6), (1, 11), (5, 0), (5, 1), (5, 2), (5, 3), (5, 4), (5, 5), (5, 6), (5, 7), (5, 8), (5, 9), (5, 10), (5, 11), (5, 12), (5, 13), (5, 14), (5, 15), (5, 16), (5, 17), (5, 18), (5, 19), (5, 20), (5, 21), (5, 22), (5, 23), (5, 24), (5, 25), (5, 26), (5, 27), (5, 28), (5, 29), (5, 30), (5, 31), (5, 32), (5, 33), (5, 34), (5, 35), (5, 36), (5, 37), (5, 38), (5, 39), (5, 40), (5, 41), (5, 42), (5, 43), (5, 44), (5, 45), (5, 46), (5, 47), (5, 48), (5, 49), (5, 50), (5, 51), (5, 52), (5, 53), (5, 54), (5, 55), (5, 56), (5, 57), (5, 58)] rfl rfl
set_option maxRecDepth 20000 in
theorem gX12_moves_X12_isTable : GoodIn wsX12_moves (wsV RX12 266 RX12 yX12_isTable wsX12_isTable) := goodIn_app (goodIn_r2 csX12_moves ciX12_moves _ [(1, 3), (1, 4), (1, 5), (1, 6)] rfl rfl) ggX12_moves_X12_isTable
theorem daX12_moves_R80 : ([(0, .aload_n 0, 1), (1, .iload_n 1, 1), (2, .invokevirtual 266, 3), (5, .ifCond .eq 20, 3), (25, .iconst (-1), 1), (26, .ireturn, 1)] : List (Nat × Instr × Nat)).all (fun x => decide (decode cX12_moves x.1 = .ok x.2)) = true := by decide +kernel
theorem dX12_moves_0 : decode cX12_moves 0 = .ok (.aload_n 0, 1) := dq_at daX12_moves_R80 (i := 0) rfl
theorem dX12_moves_1 : decode cX12_moves 1 = .ok (.iload_n 1, 1) := dq_at daX12_moves_R80 (i := 1) rfl
theorem dX12_moves_2 : decode cX12_moves 2 = .ok (.invokevirtual 266, 3) := dq_at daX12_moves_R80 (i := 2) rfl
theorem dX12_moves_5 : decode cX12_moves 5 = .ok (.ifCond .eq 20, 3) := dq_at daX12_moves_R80 (i := 3) rfl
theorem dX12_moves_25 : decode cX12_moves 25 = .ok (.iconst (-1), 1) := dq_at daX12_moves_R80 (i := 4) rfl
theorem dX12_moves_26 : decode cX12_moves 26 = .ok (.ireturn, 1) := dq_at daX12_moves_R80 (i := 5) rfl
noncomputable def csX12_knows : List (List Cond) := [[Cond.code yX12_knows cX12_knows 4 (some .int)], [Cond.fieldLink RX12 143 "SeatsRoundModel" "tables" "I", Cond.constant RX12 169 (-2000000000), Cond.fieldLink RX12 25 "SeatsRoundModel" "known" "[I", Cond.methodLink RX12 166 yX12_isKeeper, Cond.instanceMethod yX12_isKeeper, Cond.selects RX12 yX12_isKeeper yX12_isKeeper, Cond.initialized RX12, Cond.code yX12_isKeeper cX12_isKeeper 2 (some .boolean), Cond.fieldLink RX12 140 "SeatsRoundModel" "keepers" "I", Cond.methodLink RX12 136 yX12_in, Cond.static yX12_in, Cond.code yX12_in cX12_in 3 (some .boolean)], wsX120]
set_option maxRecDepth 20000 in
theorem ciX12_knows : ∀ l ∈ csX12_knows, ∀ w ∈ l, w ∈ wsX12_knows := by
  unfold csX12_knows
  refine List.forall_mem_cons.mpr ⟨fun _ h => List.mem_cons.mpr (Or.inl (List.mem_singleton.mp h)), List.forall_mem_cons.mpr ⟨fun _ h => List.mem_cons_of_mem _ (List.mem_append_left _ h), List.forall_mem_cons.mpr ⟨fun _ h => List.mem_cons_of_mem _ (List.mem_append_right _ h), fun l h => absurd h List.not_mem_nil⟩⟩⟩
set_option maxRecDepth 20000 in
theorem ggX12_knows_X12_isKeeper : GoodIn wsX12_knows wsX12_isKeeper := goodIn_r2 csX12_knows ciX12_knows _ [(1, 7), (1, 8), (1, 9), (1, 10), (1, 6), (1, 11), (2, 0), (2, 1), (2, 2), (2, 3), (2, 4), (2, 5), (2, 6), (2, 7), (2, 8), (2, 9), (2, 10), (2, 11), (2, 12), (2, 13), (2, 14), (2, 15), (2, 16), (2, 17), (2, 18), (2, 19), (2, 20), (2, 21), (2, 22), (2, 23), (2, 24), (2, 25), (2, 26), (2, 27), (2, 28), (2, 29), (2, 30), (2, 31), (2, 32), (2, 33), (2, 34), (2, 35), (2, 36), (2, 37), (2, 38), (2, 39), (2, 40), (2, 41), (2, 42), (2, 43), (2, 44), (2, 45), (2, 46), (2, 47), (2, 48), (2, 49), (2, 50), (2, 51), (2, 52), (2, 53), (2, 54), (2, 55), (2, 56), (2, 57), (2, 58)] rfl rfl
set_option maxRecDepth 20000 in
theorem gX12_knows_X12_isKeeper : GoodIn wsX12_knows (wsV RX12 166 RX12 yX12_isKeeper wsX12_isKeeper) := goodIn_app (goodIn_r2 csX12_knows ciX12_knows _ [(1, 3), (1, 4), (1, 5), (1, 6)] rfl rfl) ggX12_knows_X12_isKeeper
theorem daX12_knows_R81 : ([(0, .aload_n 0, 1), (1, .iload_n 1, 1), (2, .invokevirtual 166, 3), (5, .ifCond .eq 17, 3), (22, .ldc 169, 2), (24, .ireturn, 1)] : List (Nat × Instr × Nat)).all (fun x => decide (decode cX12_knows x.1 = .ok x.2)) = true := by decide +kernel
theorem dX12_knows_0 : decode cX12_knows 0 = .ok (.aload_n 0, 1) := dq_at daX12_knows_R81 (i := 0) rfl
theorem dX12_knows_1 : decode cX12_knows 1 = .ok (.iload_n 1, 1) := dq_at daX12_knows_R81 (i := 1) rfl
theorem dX12_knows_2 : decode cX12_knows 2 = .ok (.invokevirtual 166, 3) := dq_at daX12_knows_R81 (i := 2) rfl
theorem dX12_knows_5 : decode cX12_knows 5 = .ok (.ifCond .eq 17, 3) := dq_at daX12_knows_R81 (i := 3) rfl
theorem dX12_knows_22 : decode cX12_knows 22 = .ok (.ldc 169, 2) := dq_at daX12_knows_R81 (i := 4) rfl
theorem dX12_knows_24 : decode cX12_knows 24 = .ok (.ireturn, 1) := dq_at daX12_knows_R81 (i := 5) rfl
noncomputable def csX12_write : List (List Cond) := [[Cond.code yX12_write cX12_write 7 (some .int)], wsX12_write_r1, wsX12_write_r2, wsX12_write_r3, wsX12_write_r4, wsX12_write_r5, wsX120]
set_option maxRecDepth 20000 in
theorem ciX12_write : ∀ l ∈ csX12_write, ∀ w ∈ l, w ∈ wsX12_write := by
  unfold csX12_write
  refine List.forall_mem_cons.mpr ⟨fun _ h => List.mem_cons.mpr (Or.inl (List.mem_singleton.mp h)), List.forall_mem_cons.mpr ⟨fun _ h => List.mem_cons_of_mem _ (List.mem_append_left _ (List.mem_append_left _ h)), List.forall_mem_cons.mpr ⟨fun _ h => List.mem_cons_of_mem _ (List.mem_append_left _ (List.mem_append_right _ (List.mem_append_left _ h))), List.forall_mem_cons.mpr ⟨fun _ h => List.mem_cons_of_mem _ (List.mem_append_left _ (List.mem_append_right _ (List.mem_append_right _ (List.mem_append_left _ h)))), List.forall_mem_cons.mpr ⟨fun _ h => List.mem_cons_of_mem _ (List.mem_append_left _ (List.mem_append_right _ (List.mem_append_right _ (List.mem_append_right _ (List.mem_append_left _ h))))), List.forall_mem_cons.mpr ⟨fun _ h => List.mem_cons_of_mem _ (List.mem_append_left _ (List.mem_append_right _ (List.mem_append_right _ (List.mem_append_right _ (List.mem_append_right _ h))))), List.forall_mem_cons.mpr ⟨fun _ h => List.mem_cons_of_mem _ (List.mem_append_right _ h), fun l h => absurd h List.not_mem_nil⟩⟩⟩⟩⟩⟩⟩
set_option maxRecDepth 20000 in
theorem ggX12_write_X12_isKeeper : GoodIn wsX12_write wsX12_isKeeper := goodIn_r2 csX12_write ciX12_write _ [(1, 12), (1, 13), (1, 14), (1, 15), (1, 11), (1, 16), (6, 0), (6, 1), (6, 2), (6, 3), (6, 4), (6, 5), (6, 6), (6, 7), (6, 8), (6, 9), (6, 10), (6, 11), (6, 12), (6, 13), (6, 14), (6, 15), (6, 16), (6, 17), (6, 18), (6, 19), (6, 20), (6, 21), (6, 22), (6, 23), (6, 24), (6, 25), (6, 26), (6, 27), (6, 28), (6, 29), (6, 30), (6, 31), (6, 32), (6, 33), (6, 34), (6, 35), (6, 36), (6, 37), (6, 38), (6, 39), (6, 40), (6, 41), (6, 42), (6, 43), (6, 44), (6, 45), (6, 46), (6, 47), (6, 48), (6, 49), (6, 50), (6, 51), (6, 52), (6, 53), (6, 54), (6, 55), (6, 56), (6, 57), (6, 58)] rfl rfl
set_option maxRecDepth 20000 in
theorem gX12_write_X12_isKeeper : GoodIn wsX12_write (wsV RX12 166 RX12 yX12_isKeeper wsX12_isKeeper) := goodIn_app (goodIn_r2 csX12_write ciX12_write _ [(1, 8), (1, 9), (1, 10), (1, 11)] rfl rfl) ggX12_write_X12_isKeeper
theorem daX12_write_R82 : ([(0, .aload_n 0, 1), (1, .iload_n 1, 1), (2, .invokevirtual 166, 3), (5, .ifCond .eq 11, 3), (16, .iconst (-1), 1), (17, .ireturn, 1)] : List (Nat × Instr × Nat)).all (fun x => decide (decode cX12_write x.1 = .ok x.2)) = true := by decide +kernel
theorem dX12_write_0 : decode cX12_write 0 = .ok (.aload_n 0, 1) := dq_at daX12_write_R82 (i := 0) rfl
theorem dX12_write_1 : decode cX12_write 1 = .ok (.iload_n 1, 1) := dq_at daX12_write_R82 (i := 1) rfl
theorem dX12_write_2 : decode cX12_write 2 = .ok (.invokevirtual 166, 3) := dq_at daX12_write_R82 (i := 2) rfl
theorem dX12_write_5 : decode cX12_write 5 = .ok (.ifCond .eq 11, 3) := dq_at daX12_write_R82 (i := 3) rfl
theorem dX12_write_16 : decode cX12_write 16 = .ok (.iconst (-1), 1) := dq_at daX12_write_R82 (i := 4) rfl
theorem dX12_write_17 : decode cX12_write 17 = .ok (.ireturn, 1) := dq_at daX12_write_R82 (i := 5) rfl
noncomputable def csX12_read : List (List Cond) := [[Cond.code yX12_read cX12_read 6 (some .int)], wsX12_read_r1, wsX12_read_r2, wsX12_read_r3, wsX12_read_r4, wsX120]
set_option maxRecDepth 20000 in
theorem ciX12_read : ∀ l ∈ csX12_read, ∀ w ∈ l, w ∈ wsX12_read := by
  unfold csX12_read
  refine List.forall_mem_cons.mpr ⟨fun _ h => List.mem_cons.mpr (Or.inl (List.mem_singleton.mp h)), List.forall_mem_cons.mpr ⟨fun _ h => List.mem_cons_of_mem _ (List.mem_append_left _ (List.mem_append_left _ h)), List.forall_mem_cons.mpr ⟨fun _ h => List.mem_cons_of_mem _ (List.mem_append_left _ (List.mem_append_right _ (List.mem_append_left _ h))), List.forall_mem_cons.mpr ⟨fun _ h => List.mem_cons_of_mem _ (List.mem_append_left _ (List.mem_append_right _ (List.mem_append_right _ (List.mem_append_left _ h)))), List.forall_mem_cons.mpr ⟨fun _ h => List.mem_cons_of_mem _ (List.mem_append_left _ (List.mem_append_right _ (List.mem_append_right _ (List.mem_append_right _ h)))), List.forall_mem_cons.mpr ⟨fun _ h => List.mem_cons_of_mem _ (List.mem_append_right _ h), fun l h => absurd h List.not_mem_nil⟩⟩⟩⟩⟩⟩
set_option maxRecDepth 20000 in
theorem ggX12_read_X12_isKeeper : GoodIn wsX12_read wsX12_isKeeper := goodIn_r2 csX12_read ciX12_read _ [(1, 8), (1, 9), (1, 10), (1, 11), (1, 7), (1, 12), (5, 0), (5, 1), (5, 2), (5, 3), (5, 4), (5, 5), (5, 6), (5, 7), (5, 8), (5, 9), (5, 10), (5, 11), (5, 12), (5, 13), (5, 14), (5, 15), (5, 16), (5, 17), (5, 18), (5, 19), (5, 20), (5, 21), (5, 22), (5, 23), (5, 24), (5, 25), (5, 26), (5, 27), (5, 28), (5, 29), (5, 30), (5, 31), (5, 32), (5, 33), (5, 34), (5, 35), (5, 36), (5, 37), (5, 38), (5, 39), (5, 40), (5, 41), (5, 42), (5, 43), (5, 44), (5, 45), (5, 46), (5, 47), (5, 48), (5, 49), (5, 50), (5, 51), (5, 52), (5, 53), (5, 54), (5, 55), (5, 56), (5, 57), (5, 58)] rfl rfl
set_option maxRecDepth 20000 in
theorem gX12_read_X12_isKeeper : GoodIn wsX12_read (wsV RX12 166 RX12 yX12_isKeeper wsX12_isKeeper) := goodIn_app (goodIn_r2 csX12_read ciX12_read _ [(1, 4), (1, 5), (1, 6), (1, 7)] rfl rfl) ggX12_read_X12_isKeeper
theorem daX12_read_R83 : ([(0, .aload_n 0, 1), (1, .iload_n 1, 1), (2, .invokevirtual 166, 3), (5, .ifCond .eq 11, 3), (16, .iconst (-1), 1), (17, .ireturn, 1)] : List (Nat × Instr × Nat)).all (fun x => decide (decode cX12_read x.1 = .ok x.2)) = true := by decide +kernel
theorem dX12_read_0 : decode cX12_read 0 = .ok (.aload_n 0, 1) := dq_at daX12_read_R83 (i := 0) rfl
theorem dX12_read_1 : decode cX12_read 1 = .ok (.iload_n 1, 1) := dq_at daX12_read_R83 (i := 1) rfl
theorem dX12_read_2 : decode cX12_read 2 = .ok (.invokevirtual 166, 3) := dq_at daX12_read_R83 (i := 2) rfl
theorem dX12_read_5 : decode cX12_read 5 = .ok (.ifCond .eq 11, 3) := dq_at daX12_read_R83 (i := 3) rfl
theorem dX12_read_16 : decode cX12_read 16 = .ok (.iconst (-1), 1) := dq_at daX12_read_R83 (i := 4) rfl
theorem dX12_read_17 : decode cX12_read 17 = .ok (.ireturn, 1) := dq_at daX12_read_R83 (i := 5) rfl
noncomputable def csX12_onShelf : List (List Cond) := [[Cond.code yX12_onShelf cX12_onShelf 5 (some .int)], [Cond.fieldLink RX12 68 "SeatsRoundModel" "version" "[I", Cond.fieldLink RX12 71 "SeatsRoundModel" "kept" "[I", Cond.fieldLink RX12 74 "SeatsRoundModel" "keptFor" "[I", Cond.fieldLink RX12 77 "SeatsRoundModel" "pieces" "[I", Cond.methodLink RX12 166 yX12_isKeeper, Cond.instanceMethod yX12_isKeeper, Cond.selects RX12 yX12_isKeeper yX12_isKeeper, Cond.initialized RX12, Cond.code yX12_isKeeper cX12_isKeeper 2 (some .boolean), Cond.fieldLink RX12 140 "SeatsRoundModel" "keepers" "I", Cond.methodLink RX12 136 yX12_in, Cond.static yX12_in, Cond.code yX12_in cX12_in 3 (some .boolean), Cond.methodLink RX12 158 yX12_isName, Cond.instanceMethod yX12_isName, Cond.selects RX12 yX12_isName yX12_isName, Cond.code yX12_isName cX12_isName 2 (some .boolean), Cond.fieldLink RX12 133 "SeatsRoundModel" "names" "I"], wsX120]
set_option maxRecDepth 20000 in
theorem ciX12_onShelf : ∀ l ∈ csX12_onShelf, ∀ w ∈ l, w ∈ wsX12_onShelf := by
  unfold csX12_onShelf
  refine List.forall_mem_cons.mpr ⟨fun _ h => List.mem_cons.mpr (Or.inl (List.mem_singleton.mp h)), List.forall_mem_cons.mpr ⟨fun _ h => List.mem_cons_of_mem _ (List.mem_append_left _ h), List.forall_mem_cons.mpr ⟨fun _ h => List.mem_cons_of_mem _ (List.mem_append_right _ h), fun l h => absurd h List.not_mem_nil⟩⟩⟩
set_option maxRecDepth 20000 in
theorem ggX12_onShelf_X12_isKeeper : GoodIn wsX12_onShelf wsX12_isKeeper := goodIn_r2 csX12_onShelf ciX12_onShelf _ [(1, 8), (1, 9), (1, 10), (1, 11), (1, 7), (1, 12), (2, 0), (2, 1), (2, 2), (2, 3), (2, 4), (2, 5), (2, 6), (2, 7), (2, 8), (2, 9), (2, 10), (2, 11), (2, 12), (2, 13), (2, 14), (2, 15), (2, 16), (2, 17), (2, 18), (2, 19), (2, 20), (2, 21), (2, 22), (2, 23), (2, 24), (2, 25), (2, 26), (2, 27), (2, 28), (2, 29), (2, 30), (2, 31), (2, 32), (2, 33), (2, 34), (2, 35), (2, 36), (2, 37), (2, 38), (2, 39), (2, 40), (2, 41), (2, 42), (2, 43), (2, 44), (2, 45), (2, 46), (2, 47), (2, 48), (2, 49), (2, 50), (2, 51), (2, 52), (2, 53), (2, 54), (2, 55), (2, 56), (2, 57), (2, 58)] rfl rfl
set_option maxRecDepth 20000 in
theorem gX12_onShelf_X12_isKeeper : GoodIn wsX12_onShelf (wsV RX12 166 RX12 yX12_isKeeper wsX12_isKeeper) := goodIn_app (goodIn_r2 csX12_onShelf ciX12_onShelf _ [(1, 4), (1, 5), (1, 6), (1, 7)] rfl rfl) ggX12_onShelf_X12_isKeeper
theorem daX12_onShelf_R84 : ([(0, .aload_n 0, 1), (1, .iload_n 1, 1), (2, .invokevirtual 166, 3), (5, .ifCond .eq 11, 3), (16, .iconst (-1), 1), (17, .ireturn, 1)] : List (Nat × Instr × Nat)).all (fun x => decide (decode cX12_onShelf x.1 = .ok x.2)) = true := by decide +kernel
theorem dX12_onShelf_0 : decode cX12_onShelf 0 = .ok (.aload_n 0, 1) := dq_at daX12_onShelf_R84 (i := 0) rfl
theorem dX12_onShelf_1 : decode cX12_onShelf 1 = .ok (.iload_n 1, 1) := dq_at daX12_onShelf_R84 (i := 1) rfl
theorem dX12_onShelf_2 : decode cX12_onShelf 2 = .ok (.invokevirtual 166, 3) := dq_at daX12_onShelf_R84 (i := 2) rfl
theorem dX12_onShelf_5 : decode cX12_onShelf 5 = .ok (.ifCond .eq 11, 3) := dq_at daX12_onShelf_R84 (i := 3) rfl
theorem dX12_onShelf_16 : decode cX12_onShelf 16 = .ok (.iconst (-1), 1) := dq_at daX12_onShelf_R84 (i := 4) rfl
theorem dX12_onShelf_17 : decode cX12_onShelf 17 = .ok (.ireturn, 1) := dq_at daX12_onShelf_R84 (i := 5) rfl
noncomputable def csX12_fall : List (List Cond) := [[Cond.code yX12_fall cX12_fall 5 (some .int)], [Cond.fieldLink RX12 28 "SeatsRoundModel" "isFallen" "[Z", Cond.fieldLink RX12 68 "SeatsRoundModel" "version" "[I", Cond.fieldLink RX12 71 "SeatsRoundModel" "kept" "[I", Cond.fieldLink RX12 74 "SeatsRoundModel" "keptFor" "[I", Cond.methodLink RX12 166 yX12_isKeeper, Cond.instanceMethod yX12_isKeeper, Cond.selects RX12 yX12_isKeeper yX12_isKeeper, Cond.initialized RX12, Cond.code yX12_isKeeper cX12_isKeeper 2 (some .boolean), Cond.fieldLink RX12 140 "SeatsRoundModel" "keepers" "I", Cond.methodLink RX12 136 yX12_in, Cond.static yX12_in, Cond.code yX12_in cX12_in 3 (some .boolean)], wsX120]
set_option maxRecDepth 20000 in
theorem ciX12_fall : ∀ l ∈ csX12_fall, ∀ w ∈ l, w ∈ wsX12_fall := by
  unfold csX12_fall
  refine List.forall_mem_cons.mpr ⟨fun _ h => List.mem_cons.mpr (Or.inl (List.mem_singleton.mp h)), List.forall_mem_cons.mpr ⟨fun _ h => List.mem_cons_of_mem _ (List.mem_append_left _ h), List.forall_mem_cons.mpr ⟨fun _ h => List.mem_cons_of_mem _ (List.mem_append_right _ h), fun l h => absurd h List.not_mem_nil⟩⟩⟩
set_option maxRecDepth 20000 in
theorem ggX12_fall_X12_isKeeper : GoodIn wsX12_fall wsX12_isKeeper := goodIn_r2 csX12_fall ciX12_fall _ [(1, 8), (1, 9), (1, 10), (1, 11), (1, 7), (1, 12), (2, 0), (2, 1), (2, 2), (2, 3), (2, 4), (2, 5), (2, 6), (2, 7), (2, 8), (2, 9), (2, 10), (2, 11), (2, 12), (2, 13), (2, 14), (2, 15), (2, 16), (2, 17), (2, 18), (2, 19), (2, 20), (2, 21), (2, 22), (2, 23), (2, 24), (2, 25), (2, 26), (2, 27), (2, 28), (2, 29), (2, 30), (2, 31), (2, 32), (2, 33), (2, 34), (2, 35), (2, 36), (2, 37), (2, 38), (2, 39), (2, 40), (2, 41), (2, 42), (2, 43), (2, 44), (2, 45), (2, 46), (2, 47), (2, 48), (2, 49), (2, 50), (2, 51), (2, 52), (2, 53), (2, 54), (2, 55), (2, 56), (2, 57), (2, 58)] rfl rfl
set_option maxRecDepth 20000 in
theorem gX12_fall_X12_isKeeper : GoodIn wsX12_fall (wsV RX12 166 RX12 yX12_isKeeper wsX12_isKeeper) := goodIn_app (goodIn_r2 csX12_fall ciX12_fall _ [(1, 4), (1, 5), (1, 6), (1, 7)] rfl rfl) ggX12_fall_X12_isKeeper
theorem daX12_fall_R85 : ([(0, .aload_n 0, 1), (1, .iload_n 1, 1), (2, .invokevirtual 166, 3), (5, .ifCond .eq 12, 3), (17, .iconst (-1), 1), (18, .ireturn, 1)] : List (Nat × Instr × Nat)).all (fun x => decide (decode cX12_fall x.1 = .ok x.2)) = true := by decide +kernel
theorem dX12_fall_0 : decode cX12_fall 0 = .ok (.aload_n 0, 1) := dq_at daX12_fall_R85 (i := 0) rfl
theorem dX12_fall_1 : decode cX12_fall 1 = .ok (.iload_n 1, 1) := dq_at daX12_fall_R85 (i := 1) rfl
theorem dX12_fall_2 : decode cX12_fall 2 = .ok (.invokevirtual 166, 3) := dq_at daX12_fall_R85 (i := 2) rfl
theorem dX12_fall_5 : decode cX12_fall 5 = .ok (.ifCond .eq 12, 3) := dq_at daX12_fall_R85 (i := 3) rfl
theorem dX12_fall_17 : decode cX12_fall 17 = .ok (.iconst (-1), 1) := dq_at daX12_fall_R85 (i := 4) rfl
theorem dX12_fall_18 : decode cX12_fall 18 = .ok (.ireturn, 1) := dq_at daX12_fall_R85 (i := 5) rfl
noncomputable def csX12_half : List (List Cond) := [[Cond.code yX12_half cX12_half 6 (some .int)], [Cond.fieldLink RX12 68 "SeatsRoundModel" "version" "[I", Cond.fieldLink RX12 77 "SeatsRoundModel" "pieces" "[I", Cond.fieldLink RX12 80 "SeatsRoundModel" "piecesTo" "[I", Cond.methodLink RX12 158 yX12_isName, Cond.instanceMethod yX12_isName, Cond.selects RX12 yX12_isName yX12_isName, Cond.initialized RX12, Cond.code yX12_isName cX12_isName 2 (some .boolean), Cond.fieldLink RX12 133 "SeatsRoundModel" "names" "I", Cond.methodLink RX12 136 yX12_in, Cond.static yX12_in, Cond.code yX12_in cX12_in 3 (some .boolean), Cond.methodLink RX12 166 yX12_isKeeper, Cond.instanceMethod yX12_isKeeper, Cond.selects RX12 yX12_isKeeper yX12_isKeeper, Cond.code yX12_isKeeper cX12_isKeeper 2 (some .boolean), Cond.fieldLink RX12 140 "SeatsRoundModel" "keepers" "I", Cond.methodLink RX12 287 yX12_isAwake, Cond.instanceMethod yX12_isAwake, Cond.selects RX12 yX12_isAwake yX12_isAwake, Cond.code yX12_isAwake cX12_isAwake 2 (some .boolean), Cond.fieldLink RX12 22 "SeatsRoundModel" "kind" "[I", Cond.fieldLink RX12 28 "SeatsRoundModel" "isFallen" "[Z"], wsX120]
set_option maxRecDepth 20000 in
theorem ciX12_half : ∀ l ∈ csX12_half, ∀ w ∈ l, w ∈ wsX12_half := by
  unfold csX12_half
  refine List.forall_mem_cons.mpr ⟨fun _ h => List.mem_cons.mpr (Or.inl (List.mem_singleton.mp h)), List.forall_mem_cons.mpr ⟨fun _ h => List.mem_cons_of_mem _ (List.mem_append_left _ h), List.forall_mem_cons.mpr ⟨fun _ h => List.mem_cons_of_mem _ (List.mem_append_right _ h), fun l h => absurd h List.not_mem_nil⟩⟩⟩
set_option maxRecDepth 20000 in
theorem ggX12_half_X12_isName : GoodIn wsX12_half wsX12_isName := goodIn_r2 csX12_half ciX12_half _ [(1, 7), (1, 8), (1, 9), (1, 10), (1, 6), (1, 11), (2, 0), (2, 1), (2, 2), (2, 3), (2, 4), (2, 5), (2, 6), (2, 7), (2, 8), (2, 9), (2, 10), (2, 11), (2, 12), (2, 13), (2, 14), (2, 15), (2, 16), (2, 17), (2, 18), (2, 19), (2, 20), (2, 21), (2, 22), (2, 23), (2, 24), (2, 25), (2, 26), (2, 27), (2, 28), (2, 29), (2, 30), (2, 31), (2, 32), (2, 33), (2, 34), (2, 35), (2, 36), (2, 37), (2, 38), (2, 39), (2, 40), (2, 41), (2, 42), (2, 43), (2, 44), (2, 45), (2, 46), (2, 47), (2, 48), (2, 49), (2, 50), (2, 51), (2, 52), (2, 53), (2, 54), (2, 55), (2, 56), (2, 57), (2, 58)] rfl rfl
set_option maxRecDepth 20000 in
theorem gX12_half_X12_isName : GoodIn wsX12_half (wsV RX12 158 RX12 yX12_isName wsX12_isName) := goodIn_app (goodIn_r2 csX12_half ciX12_half _ [(1, 3), (1, 4), (1, 5), (1, 6)] rfl rfl) ggX12_half_X12_isName
theorem daX12_half_R86 : ([(0, .aload_n 0, 1), (1, .iload_n 1, 1), (2, .invokevirtual 158, 3), (5, .ifCond .eq 24, 3), (29, .iconst (-1), 1), (30, .ireturn, 1)] : List (Nat × Instr × Nat)).all (fun x => decide (decode cX12_half x.1 = .ok x.2)) = true := by decide +kernel
theorem dX12_half_0 : decode cX12_half 0 = .ok (.aload_n 0, 1) := dq_at daX12_half_R86 (i := 0) rfl
theorem dX12_half_1 : decode cX12_half 1 = .ok (.iload_n 1, 1) := dq_at daX12_half_R86 (i := 1) rfl
theorem dX12_half_2 : decode cX12_half 2 = .ok (.invokevirtual 158, 3) := dq_at daX12_half_R86 (i := 2) rfl
theorem dX12_half_5 : decode cX12_half 5 = .ok (.ifCond .eq 24, 3) := dq_at daX12_half_R86 (i := 3) rfl
theorem dX12_half_29 : decode cX12_half 29 = .ok (.iconst (-1), 1) := dq_at daX12_half_R86 (i := 4) rfl
theorem dX12_half_30 : decode cX12_half 30 = .ok (.ireturn, 1) := dq_at daX12_half_R86 (i := 5) rfl
noncomputable def csX12_mend : List (List Cond) := [[Cond.code yX12_mend cX12_mend 7 (some .int)], wsX12_mend_r1, wsX12_mend_r2, wsX12_mend_r3, wsX12_mend_r4, wsX120]
set_option maxRecDepth 20000 in
theorem ciX12_mend : ∀ l ∈ csX12_mend, ∀ w ∈ l, w ∈ wsX12_mend := by
  unfold csX12_mend
  refine List.forall_mem_cons.mpr ⟨fun _ h => List.mem_cons.mpr (Or.inl (List.mem_singleton.mp h)), List.forall_mem_cons.mpr ⟨fun _ h => List.mem_cons_of_mem _ (List.mem_append_left _ (List.mem_append_left _ h)), List.forall_mem_cons.mpr ⟨fun _ h => List.mem_cons_of_mem _ (List.mem_append_left _ (List.mem_append_right _ (List.mem_append_left _ h))), List.forall_mem_cons.mpr ⟨fun _ h => List.mem_cons_of_mem _ (List.mem_append_left _ (List.mem_append_right _ (List.mem_append_right _ (List.mem_append_left _ h)))), List.forall_mem_cons.mpr ⟨fun _ h => List.mem_cons_of_mem _ (List.mem_append_left _ (List.mem_append_right _ (List.mem_append_right _ (List.mem_append_right _ h)))), List.forall_mem_cons.mpr ⟨fun _ h => List.mem_cons_of_mem _ (List.mem_append_right _ h), fun l h => absurd h List.not_mem_nil⟩⟩⟩⟩⟩⟩
set_option maxRecDepth 20000 in
theorem ggX12_mend_X12_isTable : GoodIn wsX12_mend wsX12_isTable := goodIn_r2 csX12_mend ciX12_mend _ [(1, 10), (1, 11), (1, 12), (1, 13), (1, 9), (1, 14), (5, 0), (5, 1), (5, 2), (5, 3), (5, 4), (5, 5), (5, 6), (5, 7), (5, 8), (5, 9), (5, 10), (5, 11), (5, 12), (5, 13), (5, 14), (5, 15), (5, 16), (5, 17), (5, 18), (5, 19), (5, 20), (5, 21), (5, 22), (5, 23), (5, 24), (5, 25), (5, 26), (5, 27), (5, 28), (5, 29), (5, 30), (5, 31), (5, 32), (5, 33), (5, 34), (5, 35), (5, 36), (5, 37), (5, 38), (5, 39), (5, 40), (5, 41), (5, 42), (5, 43), (5, 44), (5, 45), (5, 46), (5, 47), (5, 48), (5, 49), (5, 50), (5, 51), (5, 52), (5, 53), (5, 54), (5, 55), (5, 56), (5, 57), (5, 58)] rfl rfl
set_option maxRecDepth 20000 in
theorem gX12_mend_X12_isTable : GoodIn wsX12_mend (wsV RX12 266 RX12 yX12_isTable wsX12_isTable) := goodIn_app (goodIn_r2 csX12_mend ciX12_mend _ [(1, 6), (1, 7), (1, 8), (1, 9)] rfl rfl) ggX12_mend_X12_isTable
theorem daX12_mend_R87 : ([(0, .aload_n 0, 1), (1, .iload_n 1, 1), (2, .invokevirtual 266, 3), (5, .ifCond .ne 5, 3), (8, .iconst (-1), 1), (9, .ireturn, 1)] : List (Nat × Instr × Nat)).all (fun x => decide (decode cX12_mend x.1 = .ok x.2)) = true := by decide +kernel
theorem dX12_mend_0 : decode cX12_mend 0 = .ok (.aload_n 0, 1) := dq_at daX12_mend_R87 (i := 0) rfl
theorem dX12_mend_1 : decode cX12_mend 1 = .ok (.iload_n 1, 1) := dq_at daX12_mend_R87 (i := 1) rfl
theorem dX12_mend_2 : decode cX12_mend 2 = .ok (.invokevirtual 266, 3) := dq_at daX12_mend_R87 (i := 2) rfl
theorem dX12_mend_5 : decode cX12_mend 5 = .ok (.ifCond .ne 5, 3) := dq_at daX12_mend_R87 (i := 3) rfl
theorem dX12_mend_8 : decode cX12_mend 8 = .ok (.iconst (-1), 1) := dq_at daX12_mend_R87 (i := 4) rfl
theorem dX12_mend_9 : decode cX12_mend 9 = .ok (.ireturn, 1) := dq_at daX12_mend_R87 (i := 5) rfl
noncomputable def csX12_trees : List (List Cond) := [[Cond.code yX12_trees cX12_trees 6 (some .int)], [Cond.methodLink RX12 166 yX12_isKeeper, Cond.instanceMethod yX12_isKeeper, Cond.selects RX12 yX12_isKeeper yX12_isKeeper, Cond.initialized RX12, Cond.code yX12_isKeeper cX12_isKeeper 2 (some .boolean), Cond.fieldLink RX12 140 "SeatsRoundModel" "keepers" "I", Cond.methodLink RX12 136 yX12_in, Cond.static yX12_in, Cond.code yX12_in cX12_in 3 (some .boolean), Cond.methodLink RX12 307 yX12_wordsBelow, Cond.instanceMethod yX12_wordsBelow, Cond.selects RX12 yX12_wordsBelow yX12_wordsBelow, Cond.code yX12_wordsBelow cX12_wordsBelow 5 (some .int), Cond.methodLink RX12 303 yX12_areUnlike, Cond.instanceMethod yX12_areUnlike, Cond.selects RX12 yX12_areUnlike yX12_areUnlike, Cond.code yX12_areUnlike cX12_areUnlike 7 (some .boolean), Cond.methodLink RX12 300 yX12_leafOf, Cond.instanceMethod yX12_leafOf, Cond.selects RX12 yX12_leafOf yX12_leafOf, Cond.code yX12_leafOf cX12_leafOf 5 (some .int), Cond.fieldLink RX12 133 "SeatsRoundModel" "names" "I", Cond.fieldLink RX12 68 "SeatsRoundModel" "version" "[I"], wsX120]
set_option maxRecDepth 20000 in
theorem ciX12_trees : ∀ l ∈ csX12_trees, ∀ w ∈ l, w ∈ wsX12_trees := by
  unfold csX12_trees
  refine List.forall_mem_cons.mpr ⟨fun _ h => List.mem_cons.mpr (Or.inl (List.mem_singleton.mp h)), List.forall_mem_cons.mpr ⟨fun _ h => List.mem_cons_of_mem _ (List.mem_append_left _ h), List.forall_mem_cons.mpr ⟨fun _ h => List.mem_cons_of_mem _ (List.mem_append_right _ h), fun l h => absurd h List.not_mem_nil⟩⟩⟩
set_option maxRecDepth 20000 in
theorem ggX12_trees_X12_isKeeper : GoodIn wsX12_trees wsX12_isKeeper := goodIn_r2 csX12_trees ciX12_trees _ [(1, 4), (1, 5), (1, 6), (1, 7), (1, 3), (1, 8), (2, 0), (2, 1), (2, 2), (2, 3), (2, 4), (2, 5), (2, 6), (2, 7), (2, 8), (2, 9), (2, 10), (2, 11), (2, 12), (2, 13), (2, 14), (2, 15), (2, 16), (2, 17), (2, 18), (2, 19), (2, 20), (2, 21), (2, 22), (2, 23), (2, 24), (2, 25), (2, 26), (2, 27), (2, 28), (2, 29), (2, 30), (2, 31), (2, 32), (2, 33), (2, 34), (2, 35), (2, 36), (2, 37), (2, 38), (2, 39), (2, 40), (2, 41), (2, 42), (2, 43), (2, 44), (2, 45), (2, 46), (2, 47), (2, 48), (2, 49), (2, 50), (2, 51), (2, 52), (2, 53), (2, 54), (2, 55), (2, 56), (2, 57), (2, 58)] rfl rfl
set_option maxRecDepth 20000 in
theorem gX12_trees_X12_isKeeper : GoodIn wsX12_trees (wsV RX12 166 RX12 yX12_isKeeper wsX12_isKeeper) := goodIn_app (goodIn_r2 csX12_trees ciX12_trees _ [(1, 0), (1, 1), (1, 2), (1, 3)] rfl rfl) ggX12_trees_X12_isKeeper
theorem daX12_trees_R88 : ([(0, .aload_n 0, 1), (1, .iload_n 1, 1), (2, .invokevirtual 166, 3), (5, .ifCond .eq 25, 3), (30, .iconst (-1), 1), (31, .ireturn, 1)] : List (Nat × Instr × Nat)).all (fun x => decide (decode cX12_trees x.1 = .ok x.2)) = true := by decide +kernel
theorem dX12_trees_0 : decode cX12_trees 0 = .ok (.aload_n 0, 1) := dq_at daX12_trees_R88 (i := 0) rfl
theorem dX12_trees_1 : decode cX12_trees 1 = .ok (.iload_n 1, 1) := dq_at daX12_trees_R88 (i := 1) rfl
theorem dX12_trees_2 : decode cX12_trees 2 = .ok (.invokevirtual 166, 3) := dq_at daX12_trees_R88 (i := 2) rfl
theorem dX12_trees_5 : decode cX12_trees 5 = .ok (.ifCond .eq 25, 3) := dq_at daX12_trees_R88 (i := 3) rfl
theorem dX12_trees_30 : decode cX12_trees 30 = .ok (.iconst (-1), 1) := dq_at daX12_trees_R88 (i := 4) rfl
theorem dX12_trees_31 : decode cX12_trees 31 = .ok (.ireturn, 1) := dq_at daX12_trees_R88 (i := 5) rfl
noncomputable def csX12_noon : List (List Cond) := [[Cond.code yX12_noon cX12_noon 6 (some .int)], [Cond.fieldLink RX12 32 "SeatsRoundModel" "tableOf" "[I", Cond.methodLink RX12 266 yX12_isTable, Cond.instanceMethod yX12_isTable, Cond.selects RX12 yX12_isTable yX12_isTable, Cond.initialized RX12, Cond.code yX12_isTable cX12_isTable 2 (some .boolean), Cond.fieldLink RX12 143 "SeatsRoundModel" "tables" "I", Cond.methodLink RX12 136 yX12_in, Cond.static yX12_in, Cond.code yX12_in cX12_in 3 (some .boolean), Cond.methodLink RX12 284 yX12_ones, Cond.static yX12_ones, Cond.code yX12_ones cX12_ones 3 (some .int)], wsX120]
set_option maxRecDepth 20000 in
theorem ciX12_noon : ∀ l ∈ csX12_noon, ∀ w ∈ l, w ∈ wsX12_noon := by
  unfold csX12_noon
  refine List.forall_mem_cons.mpr ⟨fun _ h => List.mem_cons.mpr (Or.inl (List.mem_singleton.mp h)), List.forall_mem_cons.mpr ⟨fun _ h => List.mem_cons_of_mem _ (List.mem_append_left _ h), List.forall_mem_cons.mpr ⟨fun _ h => List.mem_cons_of_mem _ (List.mem_append_right _ h), fun l h => absurd h List.not_mem_nil⟩⟩⟩
set_option maxRecDepth 20000 in
theorem ggX12_noon_X12_isTable : GoodIn wsX12_noon wsX12_isTable := goodIn_r2 csX12_noon ciX12_noon _ [(1, 5), (1, 6), (1, 7), (1, 8), (1, 4), (1, 9), (2, 0), (2, 1), (2, 2), (2, 3), (2, 4), (2, 5), (2, 6), (2, 7), (2, 8), (2, 9), (2, 10), (2, 11), (2, 12), (2, 13), (2, 14), (2, 15), (2, 16), (2, 17), (2, 18), (2, 19), (2, 20), (2, 21), (2, 22), (2, 23), (2, 24), (2, 25), (2, 26), (2, 27), (2, 28), (2, 29), (2, 30), (2, 31), (2, 32), (2, 33), (2, 34), (2, 35), (2, 36), (2, 37), (2, 38), (2, 39), (2, 40), (2, 41), (2, 42), (2, 43), (2, 44), (2, 45), (2, 46), (2, 47), (2, 48), (2, 49), (2, 50), (2, 51), (2, 52), (2, 53), (2, 54), (2, 55), (2, 56), (2, 57), (2, 58)] rfl rfl
set_option maxRecDepth 20000 in
theorem gX12_noon_X12_isTable : GoodIn wsX12_noon (wsV RX12 266 RX12 yX12_isTable wsX12_isTable) := goodIn_app (goodIn_r2 csX12_noon ciX12_noon _ [(1, 1), (1, 2), (1, 3), (1, 4)] rfl rfl) ggX12_noon_X12_isTable
theorem daX12_noon_R89 : ([(0, .aload_n 0, 1), (1, .iload_n 1, 1), (2, .invokevirtual 266, 3), (5, .ifCond .eq 25, 3), (30, .iconst (-1), 1), (31, .ireturn, 1)] : List (Nat × Instr × Nat)).all (fun x => decide (decode cX12_noon x.1 = .ok x.2)) = true := by decide +kernel
theorem dX12_noon_0 : decode cX12_noon 0 = .ok (.aload_n 0, 1) := dq_at daX12_noon_R89 (i := 0) rfl
theorem dX12_noon_1 : decode cX12_noon 1 = .ok (.iload_n 1, 1) := dq_at daX12_noon_R89 (i := 1) rfl
theorem dX12_noon_2 : decode cX12_noon 2 = .ok (.invokevirtual 266, 3) := dq_at daX12_noon_R89 (i := 2) rfl
theorem dX12_noon_5 : decode cX12_noon 5 = .ok (.ifCond .eq 25, 3) := dq_at daX12_noon_R89 (i := 3) rfl
theorem dX12_noon_30 : decode cX12_noon 30 = .ok (.iconst (-1), 1) := dq_at daX12_noon_R89 (i := 4) rfl
theorem dX12_noon_31 : decode cX12_noon 31 = .ok (.ireturn, 1) := dq_at daX12_noon_R89 (i := 5) rfl
noncomputable def csX12_lies : List (List Cond) := [[Cond.code yX12_lies cX12_lies 6 (some .int)], [Cond.fieldLink RX12 19 "SeatsRoundModel" "strength" "[I", Cond.methodLink RX12 166 yX12_isKeeper, Cond.instanceMethod yX12_isKeeper, Cond.selects RX12 yX12_isKeeper yX12_isKeeper, Cond.initialized RX12, Cond.code yX12_isKeeper cX12_isKeeper 2 (some .boolean), Cond.fieldLink RX12 140 "SeatsRoundModel" "keepers" "I", Cond.methodLink RX12 136 yX12_in, Cond.static yX12_in, Cond.code yX12_in cX12_in 3 (some .boolean)], wsX120]
set_option maxRecDepth 20000 in
theorem ciX12_lies : ∀ l ∈ csX12_lies, ∀ w ∈ l, w ∈ wsX12_lies := by
  unfold csX12_lies
  refine List.forall_mem_cons.mpr ⟨fun _ h => List.mem_cons.mpr (Or.inl (List.mem_singleton.mp h)), List.forall_mem_cons.mpr ⟨fun _ h => List.mem_cons_of_mem _ (List.mem_append_left _ h), List.forall_mem_cons.mpr ⟨fun _ h => List.mem_cons_of_mem _ (List.mem_append_right _ h), fun l h => absurd h List.not_mem_nil⟩⟩⟩
set_option maxRecDepth 20000 in
theorem ggX12_lies_X12_isKeeper : GoodIn wsX12_lies wsX12_isKeeper := goodIn_r2 csX12_lies ciX12_lies _ [(1, 5), (1, 6), (1, 7), (1, 8), (1, 4), (1, 9), (2, 0), (2, 1), (2, 2), (2, 3), (2, 4), (2, 5), (2, 6), (2, 7), (2, 8), (2, 9), (2, 10), (2, 11), (2, 12), (2, 13), (2, 14), (2, 15), (2, 16), (2, 17), (2, 18), (2, 19), (2, 20), (2, 21), (2, 22), (2, 23), (2, 24), (2, 25), (2, 26), (2, 27), (2, 28), (2, 29), (2, 30), (2, 31), (2, 32), (2, 33), (2, 34), (2, 35), (2, 36), (2, 37), (2, 38), (2, 39), (2, 40), (2, 41), (2, 42), (2, 43), (2, 44), (2, 45), (2, 46), (2, 47), (2, 48), (2, 49), (2, 50), (2, 51), (2, 52), (2, 53), (2, 54), (2, 55), (2, 56), (2, 57), (2, 58)] rfl rfl
set_option maxRecDepth 20000 in
theorem gX12_lies_X12_isKeeper : GoodIn wsX12_lies (wsV RX12 166 RX12 yX12_isKeeper wsX12_isKeeper) := goodIn_app (goodIn_r2 csX12_lies ciX12_lies _ [(1, 1), (1, 2), (1, 3), (1, 4)] rfl rfl) ggX12_lies_X12_isKeeper
theorem daX12_lies_R90 : ([(0, .aload_n 0, 1), (1, .iload_n 1, 1), (2, .invokevirtual 166, 3), (5, .ifCond .eq 38, 3), (43, .iconst (-1), 1), (44, .ireturn, 1)] : List (Nat × Instr × Nat)).all (fun x => decide (decode cX12_lies x.1 = .ok x.2)) = true := by decide +kernel
theorem dX12_lies_0 : decode cX12_lies 0 = .ok (.aload_n 0, 1) := dq_at daX12_lies_R90 (i := 0) rfl
theorem dX12_lies_1 : decode cX12_lies 1 = .ok (.iload_n 1, 1) := dq_at daX12_lies_R90 (i := 1) rfl
theorem dX12_lies_2 : decode cX12_lies 2 = .ok (.invokevirtual 166, 3) := dq_at daX12_lies_R90 (i := 2) rfl
theorem dX12_lies_5 : decode cX12_lies 5 = .ok (.ifCond .eq 38, 3) := dq_at daX12_lies_R90 (i := 3) rfl
theorem dX12_lies_43 : decode cX12_lies 43 = .ok (.iconst (-1), 1) := dq_at daX12_lies_R90 (i := 4) rfl
theorem dX12_lies_44 : decode cX12_lies 44 = .ok (.ireturn, 1) := dq_at daX12_lies_R90 (i := 5) rfl
noncomputable def csX12_comes : List (List Cond) := [[Cond.code yX12_comes cX12_comes 2 (some .int)], [Cond.fieldLink RX12 310 "SeatsRoundModel" "comers" "I", Cond.fieldLink RX12 86 "SeatsRoundModel" "comer" "[I", Cond.methodLink RX12 166 yX12_isKeeper, Cond.instanceMethod yX12_isKeeper, Cond.selects RX12 yX12_isKeeper yX12_isKeeper, Cond.initialized RX12, Cond.code yX12_isKeeper cX12_isKeeper 2 (some .boolean), Cond.fieldLink RX12 140 "SeatsRoundModel" "keepers" "I", Cond.methodLink RX12 136 yX12_in, Cond.static yX12_in, Cond.code yX12_in cX12_in 3 (some .boolean), Cond.methodLink RX12 313 yX12_isComing, Cond.instanceMethod yX12_isComing, Cond.selects RX12 yX12_isComing yX12_isComing, Cond.code yX12_isComing cX12_isComing 3 (some .boolean)], wsX120]
set_option maxRecDepth 20000 in
theorem ciX12_comes : ∀ l ∈ csX12_comes, ∀ w ∈ l, w ∈ wsX12_comes := by
  unfold csX12_comes
  refine List.forall_mem_cons.mpr ⟨fun _ h => List.mem_cons.mpr (Or.inl (List.mem_singleton.mp h)), List.forall_mem_cons.mpr ⟨fun _ h => List.mem_cons_of_mem _ (List.mem_append_left _ h), List.forall_mem_cons.mpr ⟨fun _ h => List.mem_cons_of_mem _ (List.mem_append_right _ h), fun l h => absurd h List.not_mem_nil⟩⟩⟩
set_option maxRecDepth 20000 in
theorem ggX12_comes_X12_isKeeper : GoodIn wsX12_comes wsX12_isKeeper := goodIn_r2 csX12_comes ciX12_comes _ [(1, 6), (1, 7), (1, 8), (1, 9), (1, 5), (1, 10), (2, 0), (2, 1), (2, 2), (2, 3), (2, 4), (2, 5), (2, 6), (2, 7), (2, 8), (2, 9), (2, 10), (2, 11), (2, 12), (2, 13), (2, 14), (2, 15), (2, 16), (2, 17), (2, 18), (2, 19), (2, 20), (2, 21), (2, 22), (2, 23), (2, 24), (2, 25), (2, 26), (2, 27), (2, 28), (2, 29), (2, 30), (2, 31), (2, 32), (2, 33), (2, 34), (2, 35), (2, 36), (2, 37), (2, 38), (2, 39), (2, 40), (2, 41), (2, 42), (2, 43), (2, 44), (2, 45), (2, 46), (2, 47), (2, 48), (2, 49), (2, 50), (2, 51), (2, 52), (2, 53), (2, 54), (2, 55), (2, 56), (2, 57), (2, 58)] rfl rfl
set_option maxRecDepth 20000 in
theorem gX12_comes_X12_isKeeper : GoodIn wsX12_comes (wsV RX12 166 RX12 yX12_isKeeper wsX12_isKeeper) := goodIn_app (goodIn_r2 csX12_comes ciX12_comes _ [(1, 2), (1, 3), (1, 4), (1, 5)] rfl rfl) ggX12_comes_X12_isKeeper
theorem daX12_comes_R91 : ([(0, .aload_n 0, 1), (1, .iload_n 1, 1), (2, .invokevirtual 166, 3), (5, .ifCond .eq 11, 3), (16, .iconst (-1), 1), (17, .ireturn, 1)] : List (Nat × Instr × Nat)).all (fun x => decide (decode cX12_comes x.1 = .ok x.2)) = true := by decide +kernel
theorem dX12_comes_0 : decode cX12_comes 0 = .ok (.aload_n 0, 1) := dq_at daX12_comes_R91 (i := 0) rfl
theorem dX12_comes_1 : decode cX12_comes 1 = .ok (.iload_n 1, 1) := dq_at daX12_comes_R91 (i := 1) rfl
theorem dX12_comes_2 : decode cX12_comes 2 = .ok (.invokevirtual 166, 3) := dq_at daX12_comes_R91 (i := 2) rfl
theorem dX12_comes_5 : decode cX12_comes 5 = .ok (.ifCond .eq 11, 3) := dq_at daX12_comes_R91 (i := 3) rfl
theorem dX12_comes_16 : decode cX12_comes 16 = .ok (.iconst (-1), 1) := dq_at daX12_comes_R91 (i := 4) rfl
theorem dX12_comes_17 : decode cX12_comes 17 = .ok (.ireturn, 1) := dq_at daX12_comes_R91 (i := 5) rfl
noncomputable def csX12_order : List (List Cond) := [[Cond.code yX12_order cX12_order 6 (some .int)], wsX12_order_r1, wsX12_order_r2, wsX12_order_r3, wsX12_order_r4, wsX12_order_r5, wsX12_order_r6, wsX12_order_r7, wsX120]
set_option maxRecDepth 20000 in
theorem ciX12_order : ∀ l ∈ csX12_order, ∀ w ∈ l, w ∈ wsX12_order := by
  unfold csX12_order
  refine List.forall_mem_cons.mpr ⟨fun _ h => List.mem_cons.mpr (Or.inl (List.mem_singleton.mp h)), List.forall_mem_cons.mpr ⟨fun _ h => List.mem_cons_of_mem _ (List.mem_append_left _ (List.mem_append_left _ h)), List.forall_mem_cons.mpr ⟨fun _ h => List.mem_cons_of_mem _ (List.mem_append_left _ (List.mem_append_right _ (List.mem_append_left _ h))), List.forall_mem_cons.mpr ⟨fun _ h => List.mem_cons_of_mem _ (List.mem_append_left _ (List.mem_append_right _ (List.mem_append_right _ (List.mem_append_left _ h)))), List.forall_mem_cons.mpr ⟨fun _ h => List.mem_cons_of_mem _ (List.mem_append_left _ (List.mem_append_right _ (List.mem_append_right _ (List.mem_append_right _ (List.mem_append_left _ h))))), List.forall_mem_cons.mpr ⟨fun _ h => List.mem_cons_of_mem _ (List.mem_append_left _ (List.mem_append_right _ (List.mem_append_right _ (List.mem_append_right _ (List.mem_append_right _ (List.mem_append_left _ h)))))), List.forall_mem_cons.mpr ⟨fun _ h => List.mem_cons_of_mem _ (List.mem_append_left _ (List.mem_append_right _ (List.mem_append_right _ (List.mem_append_right _ (List.mem_append_right _ (List.mem_append_right _ (List.mem_append_left _ h))))))), List.forall_mem_cons.mpr ⟨fun _ h => List.mem_cons_of_mem _ (List.mem_append_left _ (List.mem_append_right _ (List.mem_append_right _ (List.mem_append_right _ (List.mem_append_right _ (List.mem_append_right _ (List.mem_append_right _ h))))))), List.forall_mem_cons.mpr ⟨fun _ h => List.mem_cons_of_mem _ (List.mem_append_right _ h), fun l h => absurd h List.not_mem_nil⟩⟩⟩⟩⟩⟩⟩⟩⟩
set_option maxRecDepth 20000 in
theorem ggX12_order_X12_isTable : GoodIn wsX12_order wsX12_isTable := goodIn_r2 csX12_order ciX12_order _ [(1, 11), (1, 12), (1, 13), (1, 14), (1, 10), (1, 15), (8, 0), (8, 1), (8, 2), (8, 3), (8, 4), (8, 5), (8, 6), (8, 7), (8, 8), (8, 9), (8, 10), (8, 11), (8, 12), (8, 13), (8, 14), (8, 15), (8, 16), (8, 17), (8, 18), (8, 19), (8, 20), (8, 21), (8, 22), (8, 23), (8, 24), (8, 25), (8, 26), (8, 27), (8, 28), (8, 29), (8, 30), (8, 31), (8, 32), (8, 33), (8, 34), (8, 35), (8, 36), (8, 37), (8, 38), (8, 39), (8, 40), (8, 41), (8, 42), (8, 43), (8, 44), (8, 45), (8, 46), (8, 47), (8, 48), (8, 49), (8, 50), (8, 51), (8, 52), (8, 53), (8, 54), (8, 55), (8, 56), (8, 57), (8, 58)] rfl rfl
set_option maxRecDepth 20000 in
theorem gX12_order_X12_isTable : GoodIn wsX12_order (wsV RX12 266 RX12 yX12_isTable wsX12_isTable) := goodIn_app (goodIn_r2 csX12_order ciX12_order _ [(1, 7), (1, 8), (1, 9), (1, 10)] rfl rfl) ggX12_order_X12_isTable
theorem daX12_order_R92 : ([(0, .aload_n 0, 1), (1, .iload_n 1, 1), (2, .invokevirtual 266, 3), (5, .ifCond .eq 10, 3), (15, .iconst (-1), 1), (16, .ireturn, 1)] : List (Nat × Instr × Nat)).all (fun x => decide (decode cX12_order x.1 = .ok x.2)) = true := by decide +kernel
theorem dX12_order_0 : decode cX12_order 0 = .ok (.aload_n 0, 1) := dq_at daX12_order_R92 (i := 0) rfl
theorem dX12_order_1 : decode cX12_order 1 = .ok (.iload_n 1, 1) := dq_at daX12_order_R92 (i := 1) rfl
theorem dX12_order_2 : decode cX12_order 2 = .ok (.invokevirtual 266, 3) := dq_at daX12_order_R92 (i := 2) rfl
theorem dX12_order_5 : decode cX12_order 5 = .ok (.ifCond .eq 10, 3) := dq_at daX12_order_R92 (i := 3) rfl
theorem dX12_order_15 : decode cX12_order 15 = .ok (.iconst (-1), 1) := dq_at daX12_order_R92 (i := 4) rfl
theorem dX12_order_16 : decode cX12_order 16 = .ok (.ireturn, 1) := dq_at daX12_order_R92 (i := 5) rfl
noncomputable def csX12_ordered : List (List Cond) := [[Cond.code yX12_ordered cX12_ordered 2 (some .int)], [Cond.fieldLink RX12 325 "SeatsRoundModel" "orderMany" "I", Cond.fieldLink RX12 89 "SeatsRoundModel" "orderTold" "[I", Cond.methodLink RX12 136 yX12_in, Cond.static yX12_in, Cond.initialized RX12, Cond.code yX12_in cX12_in 3 (some .boolean)], wsX120]
set_option maxRecDepth 20000 in
theorem ciX12_ordered : ∀ l ∈ csX12_ordered, ∀ w ∈ l, w ∈ wsX12_ordered := by
  unfold csX12_ordered
  refine List.forall_mem_cons.mpr ⟨fun _ h => List.mem_cons.mpr (Or.inl (List.mem_singleton.mp h)), List.forall_mem_cons.mpr ⟨fun _ h => List.mem_cons_of_mem _ (List.mem_append_left _ h), List.forall_mem_cons.mpr ⟨fun _ h => List.mem_cons_of_mem _ (List.mem_append_right _ h), fun l h => absurd h List.not_mem_nil⟩⟩⟩
set_option maxRecDepth 20000 in
theorem ggX12_ordered_X12_in : GoodIn wsX12_ordered wsX12_in := goodIn_r2 csX12_ordered ciX12_ordered _ [(1, 5)] rfl rfl
set_option maxRecDepth 20000 in
theorem gX12_ordered_X12_in : GoodIn wsX12_ordered (va_wsS RX12 136 yX12_in wsX12_in) := goodIn_app (goodIn_r2 csX12_ordered ciX12_ordered _ [(1, 2), (1, 3), (1, 4)] rfl rfl) ggX12_ordered_X12_in
theorem daX12_ordered_R93 : ([(0, .iload_n 1, 1), (1, .iconst 0, 1), (2, .aload_n 0, 1), (3, .getfield 325, 3), (6, .iconst 1, 1), (7, .isub, 1), (8, .invokestatic 136, 3), (11, .ifCond .eq 12, 3), (23, .iconst (-1), 1), (24, .ireturn, 1)] : List (Nat × Instr × Nat)).all (fun x => decide (decode cX12_ordered x.1 = .ok x.2)) = true := by decide +kernel
theorem dX12_ordered_0 : decode cX12_ordered 0 = .ok (.iload_n 1, 1) := dq_at daX12_ordered_R93 (i := 0) rfl
theorem dX12_ordered_1 : decode cX12_ordered 1 = .ok (.iconst 0, 1) := dq_at daX12_ordered_R93 (i := 1) rfl
theorem dX12_ordered_2 : decode cX12_ordered 2 = .ok (.aload_n 0, 1) := dq_at daX12_ordered_R93 (i := 2) rfl
theorem dX12_ordered_3 : decode cX12_ordered 3 = .ok (.getfield 325, 3) := dq_at daX12_ordered_R93 (i := 3) rfl
theorem dX12_ordered_6 : decode cX12_ordered 6 = .ok (.iconst 1, 1) := dq_at daX12_ordered_R93 (i := 4) rfl
theorem dX12_ordered_7 : decode cX12_ordered 7 = .ok (.isub, 1) := dq_at daX12_ordered_R93 (i := 5) rfl
theorem dX12_ordered_8 : decode cX12_ordered 8 = .ok (.invokestatic 136, 3) := dq_at daX12_ordered_R93 (i := 6) rfl
theorem dX12_ordered_11 : decode cX12_ordered 11 = .ok (.ifCond .eq 12, 3) := dq_at daX12_ordered_R93 (i := 7) rfl
theorem dX12_ordered_23 : decode cX12_ordered 23 = .ok (.iconst (-1), 1) := dq_at daX12_ordered_R93 (i := 8) rfl
theorem dX12_ordered_24 : decode cX12_ordered 24 = .ok (.ireturn, 1) := dq_at daX12_ordered_R93 (i := 9) rfl
theorem daX12_turning_R94 : ([(0, .aload_n 0, 1), (1, .getfield 331, 3), (4, .bipush 6, 2), (6, .if_icmp .ne 6, 3), (12, .aload_n 0, 1), (13, .getfield 92, 3), (16, .aload_n 0, 1), (17, .getfield 331, 3), (20, .iload_n 1, 1), (21, .iastore, 1), (22, .aload_n 0, 1), (23, .dup, 1), (24, .getfield 331, 3), (27, .iconst 1, 1), (28, .iadd, 1), (29, .putfield 331, 3), (32, .aload_n 0, 1), (33, .getfield 331, 3), (36, .ireturn, 1)] : List (Nat × Instr × Nat)).all (fun x => decide (decode cX12_turning x.1 = .ok x.2)) = true := by decide +kernel
theorem dX12_turning_0 : decode cX12_turning 0 = .ok (.aload_n 0, 1) := dq_at daX12_turning_R94 (i := 0) rfl
theorem dX12_turning_1 : decode cX12_turning 1 = .ok (.getfield 331, 3) := dq_at daX12_turning_R94 (i := 1) rfl
theorem dX12_turning_4 : decode cX12_turning 4 = .ok (.bipush 6, 2) := dq_at daX12_turning_R94 (i := 2) rfl
theorem dX12_turning_6 : decode cX12_turning 6 = .ok (.if_icmp .ne 6, 3) := dq_at daX12_turning_R94 (i := 3) rfl
theorem dX12_turning_12 : decode cX12_turning 12 = .ok (.aload_n 0, 1) := dq_at daX12_turning_R94 (i := 4) rfl
theorem dX12_turning_13 : decode cX12_turning 13 = .ok (.getfield 92, 3) := dq_at daX12_turning_R94 (i := 5) rfl
theorem dX12_turning_16 : decode cX12_turning 16 = .ok (.aload_n 0, 1) := dq_at daX12_turning_R94 (i := 6) rfl
theorem dX12_turning_17 : decode cX12_turning 17 = .ok (.getfield 331, 3) := dq_at daX12_turning_R94 (i := 7) rfl
theorem dX12_turning_20 : decode cX12_turning 20 = .ok (.iload_n 1, 1) := dq_at daX12_turning_R94 (i := 8) rfl
theorem dX12_turning_21 : decode cX12_turning 21 = .ok (.iastore, 1) := dq_at daX12_turning_R94 (i := 9) rfl
theorem dX12_turning_22 : decode cX12_turning 22 = .ok (.aload_n 0, 1) := dq_at daX12_turning_R94 (i := 10) rfl
theorem dX12_turning_23 : decode cX12_turning 23 = .ok (.dup, 1) := dq_at daX12_turning_R94 (i := 11) rfl
theorem dX12_turning_24 : decode cX12_turning 24 = .ok (.getfield 331, 3) := dq_at daX12_turning_R94 (i := 12) rfl
theorem dX12_turning_27 : decode cX12_turning 27 = .ok (.iconst 1, 1) := dq_at daX12_turning_R94 (i := 13) rfl
theorem dX12_turning_28 : decode cX12_turning 28 = .ok (.iadd, 1) := dq_at daX12_turning_R94 (i := 14) rfl
theorem dX12_turning_29 : decode cX12_turning 29 = .ok (.putfield 331, 3) := dq_at daX12_turning_R94 (i := 15) rfl
theorem dX12_turning_32 : decode cX12_turning 32 = .ok (.aload_n 0, 1) := dq_at daX12_turning_R94 (i := 16) rfl
theorem dX12_turning_33 : decode cX12_turning 33 = .ok (.getfield 331, 3) := dq_at daX12_turning_R94 (i := 17) rfl
theorem dX12_turning_36 : decode cX12_turning 36 = .ok (.ireturn, 1) := dq_at daX12_turning_R94 (i := 18) rfl
noncomputable def csX12_harm : List (List Cond) := [[Cond.code yX12_harm cX12_harm 7 (some .int)], wsX12_harm_r1, wsX12_harm_r2, wsX12_harm_r3, wsX12_harm_r4, wsX12_harm_r5, wsX120]
set_option maxRecDepth 20000 in
theorem ciX12_harm : ∀ l ∈ csX12_harm, ∀ w ∈ l, w ∈ wsX12_harm := by
  unfold csX12_harm
  refine List.forall_mem_cons.mpr ⟨fun _ h => List.mem_cons.mpr (Or.inl (List.mem_singleton.mp h)), List.forall_mem_cons.mpr ⟨fun _ h => List.mem_cons_of_mem _ (List.mem_append_left _ (List.mem_append_left _ h)), List.forall_mem_cons.mpr ⟨fun _ h => List.mem_cons_of_mem _ (List.mem_append_left _ (List.mem_append_right _ (List.mem_append_left _ h))), List.forall_mem_cons.mpr ⟨fun _ h => List.mem_cons_of_mem _ (List.mem_append_left _ (List.mem_append_right _ (List.mem_append_right _ (List.mem_append_left _ h)))), List.forall_mem_cons.mpr ⟨fun _ h => List.mem_cons_of_mem _ (List.mem_append_left _ (List.mem_append_right _ (List.mem_append_right _ (List.mem_append_right _ (List.mem_append_left _ h))))), List.forall_mem_cons.mpr ⟨fun _ h => List.mem_cons_of_mem _ (List.mem_append_left _ (List.mem_append_right _ (List.mem_append_right _ (List.mem_append_right _ (List.mem_append_right _ h))))), List.forall_mem_cons.mpr ⟨fun _ h => List.mem_cons_of_mem _ (List.mem_append_right _ h), fun l h => absurd h List.not_mem_nil⟩⟩⟩⟩⟩⟩⟩
set_option maxRecDepth 20000 in
theorem ggX12_harm_X12_isTable : GoodIn wsX12_harm wsX12_isTable := goodIn_r2 csX12_harm ciX12_harm _ [(1, 9), (1, 10), (1, 11), (1, 12), (1, 8), (1, 13), (6, 0), (6, 1), (6, 2), (6, 3), (6, 4), (6, 5), (6, 6), (6, 7), (6, 8), (6, 9), (6, 10), (6, 11), (6, 12), (6, 13), (6, 14), (6, 15), (6, 16), (6, 17), (6, 18), (6, 19), (6, 20), (6, 21), (6, 22), (6, 23), (6, 24), (6, 25), (6, 26), (6, 27), (6, 28), (6, 29), (6, 30), (6, 31), (6, 32), (6, 33), (6, 34), (6, 35), (6, 36), (6, 37), (6, 38), (6, 39), (6, 40), (6, 41), (6, 42), (6, 43), (6, 44), (6, 45), (6, 46), (6, 47), (6, 48), (6, 49), (6, 50), (6, 51), (6, 52), (6, 53), (6, 54), (6, 55), (6, 56), (6, 57), (6, 58)] rfl rfl
set_option maxRecDepth 20000 in
theorem gX12_harm_X12_isTable : GoodIn wsX12_harm (wsV RX12 266 RX12 yX12_isTable wsX12_isTable) := goodIn_app (goodIn_r2 csX12_harm ciX12_harm _ [(1, 5), (1, 6), (1, 7), (1, 8)] rfl rfl) ggX12_harm_X12_isTable
theorem daX12_harm_R95 : ([(0, .aload_n 0, 1), (1, .iload_n 1, 1), (2, .invokevirtual 266, 3), (5, .ifCond .eq 10, 3), (15, .iconst (-1), 1), (16, .ireturn, 1)] : List (Nat × Instr × Nat)).all (fun x => decide (decode cX12_harm x.1 = .ok x.2)) = true := by decide +kernel
theorem dX12_harm_0 : decode cX12_harm 0 = .ok (.aload_n 0, 1) := dq_at daX12_harm_R95 (i := 0) rfl
theorem dX12_harm_1 : decode cX12_harm 1 = .ok (.iload_n 1, 1) := dq_at daX12_harm_R95 (i := 1) rfl
theorem dX12_harm_2 : decode cX12_harm 2 = .ok (.invokevirtual 266, 3) := dq_at daX12_harm_R95 (i := 2) rfl
theorem dX12_harm_5 : decode cX12_harm 5 = .ok (.ifCond .eq 10, 3) := dq_at daX12_harm_R95 (i := 3) rfl
theorem dX12_harm_15 : decode cX12_harm 15 = .ok (.iconst (-1), 1) := dq_at daX12_harm_R95 (i := 4) rfl
theorem dX12_harm_16 : decode cX12_harm 16 = .ok (.ireturn, 1) := dq_at daX12_harm_R95 (i := 5) rfl
theorem daX12_harmed_R96 : ([(0, .aload_n 0, 1), (1, .getfield 95, 3), (4, .ireturn, 1)] : List (Nat × Instr × Nat)).all (fun x => decide (decode cX12_harmed x.1 = .ok x.2)) = true := by decide +kernel
theorem dX12_harmed_0 : decode cX12_harmed 0 = .ok (.aload_n 0, 1) := dq_at daX12_harmed_R96 (i := 0) rfl
theorem dX12_harmed_1 : decode cX12_harmed 1 = .ok (.getfield 95, 3) := dq_at daX12_harmed_R96 (i := 1) rfl
theorem dX12_harmed_4 : decode cX12_harmed 4 = .ok (.ireturn, 1) := dq_at daX12_harmed_R96 (i := 2) rfl
noncomputable def csX12_act : List (List Cond) := [[Cond.code yX12_act cX12_act 5 (some .int)], wsX12_act_r1, wsX12_act_r2, wsX120]
set_option maxRecDepth 20000 in
theorem ciX12_act : ∀ l ∈ csX12_act, ∀ w ∈ l, w ∈ wsX12_act := by
  unfold csX12_act
  refine List.forall_mem_cons.mpr ⟨fun _ h => List.mem_cons.mpr (Or.inl (List.mem_singleton.mp h)), List.forall_mem_cons.mpr ⟨fun _ h => List.mem_cons_of_mem _ (List.mem_append_left _ (List.mem_append_left _ h)), List.forall_mem_cons.mpr ⟨fun _ h => List.mem_cons_of_mem _ (List.mem_append_left _ (List.mem_append_right _ h)), List.forall_mem_cons.mpr ⟨fun _ h => List.mem_cons_of_mem _ (List.mem_append_right _ h), fun l h => absurd h List.not_mem_nil⟩⟩⟩⟩
set_option maxRecDepth 20000 in
theorem ggX12_act_X12_isKeeper : GoodIn wsX12_act wsX12_isKeeper := goodIn_r2 csX12_act ciX12_act _ [(1, 6), (1, 7), (1, 8), (1, 9), (1, 5), (1, 10), (3, 0), (3, 1), (3, 2), (3, 3), (3, 4), (3, 5), (3, 6), (3, 7), (3, 8), (3, 9), (3, 10), (3, 11), (3, 12), (3, 13), (3, 14), (3, 15), (3, 16), (3, 17), (3, 18), (3, 19), (3, 20), (3, 21), (3, 22), (3, 23), (3, 24), (3, 25), (3, 26), (3, 27), (3, 28), (3, 29), (3, 30), (3, 31), (3, 32), (3, 33), (3, 34), (3, 35), (3, 36), (3, 37), (3, 38), (3, 39), (3, 40), (3, 41), (3, 42), (3, 43), (3, 44), (3, 45), (3, 46), (3, 47), (3, 48), (3, 49), (3, 50), (3, 51), (3, 52), (3, 53), (3, 54), (3, 55), (3, 56), (3, 57), (3, 58)] rfl rfl
set_option maxRecDepth 20000 in
theorem gX12_act_X12_isKeeper : GoodIn wsX12_act (wsV RX12 166 RX12 yX12_isKeeper wsX12_isKeeper) := goodIn_app (goodIn_r2 csX12_act ciX12_act _ [(1, 2), (1, 3), (1, 4), (1, 5)] rfl rfl) ggX12_act_X12_isKeeper
theorem daX12_act_R97 : ([(0, .aload_n 0, 1), (1, .iconst 0, 1), (2, .putfield 334, 3), (5, .aload_n 0, 1), (6, .iload_n 1, 1), (7, .invokevirtual 166, 3), (10, .ifCond .eq 12, 3), (22, .iconst 0, 1), (23, .ireturn, 1)] : List (Nat × Instr × Nat)).all (fun x => decide (decode cX12_act x.1 = .ok x.2)) = true := by decide +kernel
theorem dX12_act_0 : decode cX12_act 0 = .ok (.aload_n 0, 1) := dq_at daX12_act_R97 (i := 0) rfl
theorem dX12_act_1 : decode cX12_act 1 = .ok (.iconst 0, 1) := dq_at daX12_act_R97 (i := 1) rfl
theorem dX12_act_2 : decode cX12_act 2 = .ok (.putfield 334, 3) := dq_at daX12_act_R97 (i := 2) rfl
theorem dX12_act_5 : decode cX12_act 5 = .ok (.aload_n 0, 1) := dq_at daX12_act_R97 (i := 3) rfl
theorem dX12_act_6 : decode cX12_act 6 = .ok (.iload_n 1, 1) := dq_at daX12_act_R97 (i := 4) rfl
theorem dX12_act_7 : decode cX12_act 7 = .ok (.invokevirtual 166, 3) := dq_at daX12_act_R97 (i := 5) rfl
theorem dX12_act_10 : decode cX12_act 10 = .ok (.ifCond .eq 12, 3) := dq_at daX12_act_R97 (i := 6) rfl
theorem dX12_act_22 : decode cX12_act 22 = .ok (.iconst 0, 1) := dq_at daX12_act_R97 (i := 7) rfl
theorem dX12_act_23 : decode cX12_act 23 = .ok (.ireturn, 1) := dq_at daX12_act_R97 (i := 8) rfl
theorem daX12_trace_R98 : ([(0, .iload_n 1, 1), (1, .ifCond .lt 26, 3), (4, .iload_n 1, 1), (5, .aload_n 0, 1), (6, .getfield 334, 3), (9, .if_icmp .ge 18, 3), (27, .iconst (-1), 1), (28, .ireturn, 1)] : List (Nat × Instr × Nat)).all (fun x => decide (decode cX12_trace x.1 = .ok x.2)) = true := by decide +kernel
theorem dX12_trace_0 : decode cX12_trace 0 = .ok (.iload_n 1, 1) := dq_at daX12_trace_R98 (i := 0) rfl
theorem dX12_trace_1 : decode cX12_trace 1 = .ok (.ifCond .lt 26, 3) := dq_at daX12_trace_R98 (i := 1) rfl
theorem dX12_trace_4 : decode cX12_trace 4 = .ok (.iload_n 1, 1) := dq_at daX12_trace_R98 (i := 2) rfl
theorem dX12_trace_5 : decode cX12_trace 5 = .ok (.aload_n 0, 1) := dq_at daX12_trace_R98 (i := 3) rfl
theorem dX12_trace_6 : decode cX12_trace 6 = .ok (.getfield 334, 3) := dq_at daX12_trace_R98 (i := 4) rfl
theorem dX12_trace_9 : decode cX12_trace 9 = .ok (.if_icmp .ge 18, 3) := dq_at daX12_trace_R98 (i := 5) rfl
theorem dX12_trace_27 : decode cX12_trace 27 = .ok (.iconst (-1), 1) := dq_at daX12_trace_R98 (i := 6) rfl
theorem dX12_trace_28 : decode cX12_trace 28 = .ok (.ireturn, 1) := dq_at daX12_trace_R98 (i := 7) rfl
noncomputable def csX12_isShelf : List (List Cond) := [[Cond.code yX12_isShelf cX12_isShelf 1 (some .boolean)], [Cond.methodLink RX12 136 yX12_in, Cond.static yX12_in, Cond.initialized RX12, Cond.code yX12_in cX12_in 3 (some .boolean)]]
set_option maxRecDepth 20000 in
theorem ciX12_isShelf : ∀ l ∈ csX12_isShelf, ∀ w ∈ l, w ∈ wsX12_isShelf := by
  unfold csX12_isShelf
  refine List.forall_mem_cons.mpr ⟨fun _ h => List.mem_cons.mpr (Or.inl (List.mem_singleton.mp h)), List.forall_mem_cons.mpr ⟨fun _ h => List.mem_cons_of_mem _ h, fun l h => absurd h List.not_mem_nil⟩⟩
set_option maxRecDepth 20000 in
theorem ggX12_isShelf_X12_in : GoodIn wsX12_isShelf wsX12_in := goodIn_r2 csX12_isShelf ciX12_isShelf _ [(1, 3)] rfl rfl
set_option maxRecDepth 20000 in
theorem gX12_isShelf_X12_in : GoodIn wsX12_isShelf (va_wsS RX12 136 yX12_in wsX12_in) := goodIn_app (goodIn_r2 csX12_isShelf ciX12_isShelf _ [(1, 0), (1, 1), (1, 2)] rfl rfl) ggX12_isShelf_X12_in
theorem daX12_isShelf_R99 : ([(0, .iload_n 0, 1), (1, .iconst 0, 1), (2, .iconst 5, 1), (3, .invokestatic 136, 3), (6, .ireturn, 1)] : List (Nat × Instr × Nat)).all (fun x => decide (decode cX12_isShelf x.1 = .ok x.2)) = true := by decide +kernel
theorem dX12_isShelf_0 : decode cX12_isShelf 0 = .ok (.iload_n 0, 1) := dq_at daX12_isShelf_R99 (i := 0) rfl
theorem dX12_isShelf_1 : decode cX12_isShelf 1 = .ok (.iconst 0, 1) := dq_at daX12_isShelf_R99 (i := 1) rfl
theorem dX12_isShelf_2 : decode cX12_isShelf 2 = .ok (.iconst 5, 1) := dq_at daX12_isShelf_R99 (i := 2) rfl
theorem dX12_isShelf_3 : decode cX12_isShelf 3 = .ok (.invokestatic 136, 3) := dq_at daX12_isShelf_R99 (i := 3) rfl
theorem dX12_isShelf_6 : decode cX12_isShelf 6 = .ok (.ireturn, 1) := dq_at daX12_isShelf_R99 (i := 4) rfl
noncomputable def csX12_keep : List (List Cond) := [[Cond.code yX12_keep cX12_keep 3 (some .int)], [Cond.fieldLink RX12 102 "SeatsRoundModel" "shelfIs" "[I", Cond.fieldLink RX12 105 "SeatsRoundModel" "shelfSort" "[I", Cond.methodLink RX12 355 yX12_isShelf, Cond.static yX12_isShelf, Cond.initialized RX12, Cond.code yX12_isShelf cX12_isShelf 1 (some .boolean), Cond.methodLink RX12 136 yX12_in, Cond.static yX12_in, Cond.code yX12_in cX12_in 3 (some .boolean), Cond.methodLink RX12 166 yX12_isKeeper, Cond.instanceMethod yX12_isKeeper, Cond.selects RX12 yX12_isKeeper yX12_isKeeper, Cond.code yX12_isKeeper cX12_isKeeper 2 (some .boolean), Cond.fieldLink RX12 140 "SeatsRoundModel" "keepers" "I"], wsX120]
set_option maxRecDepth 20000 in
theorem ciX12_keep : ∀ l ∈ csX12_keep, ∀ w ∈ l, w ∈ wsX12_keep := by
  unfold csX12_keep
  refine List.forall_mem_cons.mpr ⟨fun _ h => List.mem_cons.mpr (Or.inl (List.mem_singleton.mp h)), List.forall_mem_cons.mpr ⟨fun _ h => List.mem_cons_of_mem _ (List.mem_append_left _ h), List.forall_mem_cons.mpr ⟨fun _ h => List.mem_cons_of_mem _ (List.mem_append_right _ h), fun l h => absurd h List.not_mem_nil⟩⟩⟩
set_option maxRecDepth 20000 in
theorem ggX12_keep_X12_isShelf : GoodIn wsX12_keep wsX12_isShelf := goodIn_r2 csX12_keep ciX12_keep _ [(1, 5), (1, 6), (1, 7), (1, 4), (1, 8)] rfl rfl
set_option maxRecDepth 20000 in
theorem gX12_keep_X12_isShelf : GoodIn wsX12_keep (va_wsS RX12 355 yX12_isShelf wsX12_isShelf) := goodIn_app (goodIn_r2 csX12_keep ciX12_keep _ [(1, 2), (1, 3), (1, 4)] rfl rfl) ggX12_keep_X12_isShelf
set_option maxRecDepth 20000 in
theorem ggX12_keep_X12_isKeeper : GoodIn wsX12_keep wsX12_isKeeper := goodIn_r2 csX12_keep ciX12_keep _ [(1, 12), (1, 13), (1, 6), (1, 7), (1, 4), (1, 8), (2, 0), (2, 1), (2, 2), (2, 3), (2, 4), (2, 5), (2, 6), (2, 7), (2, 8), (2, 9), (2, 10), (2, 11), (2, 12), (2, 13), (2, 14), (2, 15), (2, 16), (2, 17), (2, 18), (2, 19), (2, 20), (2, 21), (2, 22), (2, 23), (2, 24), (2, 25), (2, 26), (2, 27), (2, 28), (2, 29), (2, 30), (2, 31), (2, 32), (2, 33), (2, 34), (2, 35), (2, 36), (2, 37), (2, 38), (2, 39), (2, 40), (2, 41), (2, 42), (2, 43), (2, 44), (2, 45), (2, 46), (2, 47), (2, 48), (2, 49), (2, 50), (2, 51), (2, 52), (2, 53), (2, 54), (2, 55), (2, 56), (2, 57), (2, 58)] rfl rfl
set_option maxRecDepth 20000 in
theorem gX12_keep_X12_isKeeper : GoodIn wsX12_keep (wsV RX12 166 RX12 yX12_isKeeper wsX12_isKeeper) := goodIn_app (goodIn_r2 csX12_keep ciX12_keep _ [(1, 9), (1, 10), (1, 11), (1, 4)] rfl rfl) ggX12_keep_X12_isKeeper
theorem daX12_keep_R100 : ([(0, .iload_n 1, 1), (1, .invokestatic 355, 3), (4, .ifCond .eq 16, 3), (7, .iload_n 2, 1), (8, .iconst (-1), 1), (9, .if_icmp .eq 13, 3), (12, .aload_n 0, 1), (13, .iload_n 2, 1), (14, .invokevirtual 166, 3), (17, .ifCond .ne 5, 3), (20, .iconst (-1), 1), (21, .ireturn, 1), (22, .aload_n 0, 1), (23, .getfield 102, 3), (26, .iload_n 1, 1), (27, .iload_n 2, 1), (28, .iastore, 1), (29, .aload_n 0, 1), (30, .getfield 105, 3), (33, .iload_n 1, 1), (34, .iconst (-1), 1), (35, .iastore, 1), (36, .iconst 1, 1), (37, .ireturn, 1)] : List (Nat × Instr × Nat)).all (fun x => decide (decode cX12_keep x.1 = .ok x.2)) = true := by decide +kernel
theorem dX12_keep_0 : decode cX12_keep 0 = .ok (.iload_n 1, 1) := dq_at daX12_keep_R100 (i := 0) rfl
theorem dX12_keep_1 : decode cX12_keep 1 = .ok (.invokestatic 355, 3) := dq_at daX12_keep_R100 (i := 1) rfl
theorem dX12_keep_4 : decode cX12_keep 4 = .ok (.ifCond .eq 16, 3) := dq_at daX12_keep_R100 (i := 2) rfl
theorem dX12_keep_7 : decode cX12_keep 7 = .ok (.iload_n 2, 1) := dq_at daX12_keep_R100 (i := 3) rfl
theorem dX12_keep_8 : decode cX12_keep 8 = .ok (.iconst (-1), 1) := dq_at daX12_keep_R100 (i := 4) rfl
theorem dX12_keep_9 : decode cX12_keep 9 = .ok (.if_icmp .eq 13, 3) := dq_at daX12_keep_R100 (i := 5) rfl
theorem dX12_keep_12 : decode cX12_keep 12 = .ok (.aload_n 0, 1) := dq_at daX12_keep_R100 (i := 6) rfl
theorem dX12_keep_13 : decode cX12_keep 13 = .ok (.iload_n 2, 1) := dq_at daX12_keep_R100 (i := 7) rfl
theorem dX12_keep_14 : decode cX12_keep 14 = .ok (.invokevirtual 166, 3) := dq_at daX12_keep_R100 (i := 8) rfl
theorem dX12_keep_17 : decode cX12_keep 17 = .ok (.ifCond .ne 5, 3) := dq_at daX12_keep_R100 (i := 9) rfl
theorem dX12_keep_20 : decode cX12_keep 20 = .ok (.iconst (-1), 1) := dq_at daX12_keep_R100 (i := 10) rfl
theorem dX12_keep_21 : decode cX12_keep 21 = .ok (.ireturn, 1) := dq_at daX12_keep_R100 (i := 11) rfl
theorem dX12_keep_22 : decode cX12_keep 22 = .ok (.aload_n 0, 1) := dq_at daX12_keep_R100 (i := 12) rfl
theorem dX12_keep_23 : decode cX12_keep 23 = .ok (.getfield 102, 3) := dq_at daX12_keep_R100 (i := 13) rfl
theorem dX12_keep_26 : decode cX12_keep 26 = .ok (.iload_n 1, 1) := dq_at daX12_keep_R100 (i := 14) rfl
theorem dX12_keep_27 : decode cX12_keep 27 = .ok (.iload_n 2, 1) := dq_at daX12_keep_R100 (i := 15) rfl
theorem dX12_keep_28 : decode cX12_keep 28 = .ok (.iastore, 1) := dq_at daX12_keep_R100 (i := 16) rfl
theorem dX12_keep_29 : decode cX12_keep 29 = .ok (.aload_n 0, 1) := dq_at daX12_keep_R100 (i := 17) rfl
theorem dX12_keep_30 : decode cX12_keep 30 = .ok (.getfield 105, 3) := dq_at daX12_keep_R100 (i := 18) rfl
theorem dX12_keep_33 : decode cX12_keep 33 = .ok (.iload_n 1, 1) := dq_at daX12_keep_R100 (i := 19) rfl
theorem dX12_keep_34 : decode cX12_keep 34 = .ok (.iconst (-1), 1) := dq_at daX12_keep_R100 (i := 20) rfl
theorem dX12_keep_35 : decode cX12_keep 35 = .ok (.iastore, 1) := dq_at daX12_keep_R100 (i := 21) rfl
theorem dX12_keep_36 : decode cX12_keep 36 = .ok (.iconst 1, 1) := dq_at daX12_keep_R100 (i := 22) rfl
theorem dX12_keep_37 : decode cX12_keep 37 = .ok (.ireturn, 1) := dq_at daX12_keep_R100 (i := 23) rfl
noncomputable def csX12_row : List (List Cond) := [[Cond.code yX12_row cX12_row 5 (some .int)], [Cond.fieldLink RX12 102 "SeatsRoundModel" "shelfIs" "[I", Cond.fieldLink RX12 105 "SeatsRoundModel" "shelfSort" "[I", Cond.fieldLink RX12 108 "SeatsRoundModel" "shelfSize" "[I", Cond.fieldLink RX12 111 "SeatsRoundModel" "elements" "[J", Cond.methodLink RX12 355 yX12_isShelf, Cond.static yX12_isShelf, Cond.initialized RX12, Cond.code yX12_isShelf cX12_isShelf 1 (some .boolean), Cond.methodLink RX12 136 yX12_in, Cond.static yX12_in, Cond.code yX12_in cX12_in 3 (some .boolean)], wsX120]
set_option maxRecDepth 20000 in
theorem ciX12_row : ∀ l ∈ csX12_row, ∀ w ∈ l, w ∈ wsX12_row := by
  unfold csX12_row
  refine List.forall_mem_cons.mpr ⟨fun _ h => List.mem_cons.mpr (Or.inl (List.mem_singleton.mp h)), List.forall_mem_cons.mpr ⟨fun _ h => List.mem_cons_of_mem _ (List.mem_append_left _ h), List.forall_mem_cons.mpr ⟨fun _ h => List.mem_cons_of_mem _ (List.mem_append_right _ h), fun l h => absurd h List.not_mem_nil⟩⟩⟩
set_option maxRecDepth 20000 in
theorem ggX12_row_X12_isShelf : GoodIn wsX12_row wsX12_isShelf := goodIn_r2 csX12_row ciX12_row _ [(1, 7), (1, 8), (1, 9), (1, 6), (1, 10)] rfl rfl
set_option maxRecDepth 20000 in
theorem gX12_row_X12_isShelf : GoodIn wsX12_row (va_wsS RX12 355 yX12_isShelf wsX12_isShelf) := goodIn_app (goodIn_r2 csX12_row ciX12_row _ [(1, 4), (1, 5), (1, 6)] rfl rfl) ggX12_row_X12_isShelf
set_option maxRecDepth 20000 in
theorem ggX12_row_X12_in : GoodIn wsX12_row wsX12_in := goodIn_r2 csX12_row ciX12_row _ [(1, 10)] rfl rfl
set_option maxRecDepth 20000 in
theorem gX12_row_X12_in : GoodIn wsX12_row (va_wsS RX12 136 yX12_in wsX12_in) := goodIn_app (goodIn_r2 csX12_row ciX12_row _ [(1, 8), (1, 9), (1, 6)] rfl rfl) ggX12_row_X12_in
theorem daX12_row_R101 : ([(0, .iload_n 1, 1), (1, .invokestatic 355, 3), (4, .ifCond .eq 18, 3), (7, .iload_n 2, 1), (8, .iconst 0, 1), (9, .iconst 4, 1), (10, .invokestatic 136, 3), (13, .ifCond .eq 9, 3), (16, .iload_n 3, 1), (17, .bipush 60, 2), (19, .if_icmp .le 5, 3), (22, .iconst (-1), 1), (23, .ireturn, 1), (24, .iload_n 3, 1), (25, .ifCond .ge 6, 3), (28, .bipush (-14), 2), (30, .ireturn, 1), (31, .aload_n 0, 1), (32, .getfield 102, 3), (35, .iload_n 1, 1), (36, .iconst (-1), 1), (37, .iastore, 1), (38, .aload_n 0, 1), (39, .getfield 105, 3), (42, .iload_n 1, 1), (43, .iload_n 2, 1), (44, .iastore, 1), (45, .aload_n 0, 1), (46, .getfield 108, 3), (49, .iload_n 1, 1), (50, .iload_n 3, 1), (51, .iastore, 1), (52, .iconst 0, 1), (53, .istore 4, 2), (55, .iload 4, 2), (57, .bipush 60, 2), (59, .if_icmp .ge 22, 3), (62, .aload_n 0, 1), (63, .getfield 111, 3), (66, .bipush 60, 2), (68, .iload_n 1, 1), (69, .imul, 1), (70, .iload 4, 2), (72, .iadd, 1), (73, .lconst 0, 1), (74, .lastore, 1), (75, .iinc 4 1, 3), (78, .goto (-23), 3), (81, .iconst 1, 1), (82, .ireturn, 1)] : List (Nat × Instr × Nat)).all (fun x => decide (decode cX12_row x.1 = .ok x.2)) = true := by decide +kernel
theorem dX12_row_0 : decode cX12_row 0 = .ok (.iload_n 1, 1) := dq_at daX12_row_R101 (i := 0) rfl
theorem dX12_row_1 : decode cX12_row 1 = .ok (.invokestatic 355, 3) := dq_at daX12_row_R101 (i := 1) rfl
theorem dX12_row_4 : decode cX12_row 4 = .ok (.ifCond .eq 18, 3) := dq_at daX12_row_R101 (i := 2) rfl
theorem dX12_row_7 : decode cX12_row 7 = .ok (.iload_n 2, 1) := dq_at daX12_row_R101 (i := 3) rfl
theorem dX12_row_8 : decode cX12_row 8 = .ok (.iconst 0, 1) := dq_at daX12_row_R101 (i := 4) rfl
theorem dX12_row_9 : decode cX12_row 9 = .ok (.iconst 4, 1) := dq_at daX12_row_R101 (i := 5) rfl
theorem dX12_row_10 : decode cX12_row 10 = .ok (.invokestatic 136, 3) := dq_at daX12_row_R101 (i := 6) rfl
theorem dX12_row_13 : decode cX12_row 13 = .ok (.ifCond .eq 9, 3) := dq_at daX12_row_R101 (i := 7) rfl
theorem dX12_row_16 : decode cX12_row 16 = .ok (.iload_n 3, 1) := dq_at daX12_row_R101 (i := 8) rfl
theorem dX12_row_17 : decode cX12_row 17 = .ok (.bipush 60, 2) := dq_at daX12_row_R101 (i := 9) rfl
theorem dX12_row_19 : decode cX12_row 19 = .ok (.if_icmp .le 5, 3) := dq_at daX12_row_R101 (i := 10) rfl
theorem dX12_row_22 : decode cX12_row 22 = .ok (.iconst (-1), 1) := dq_at daX12_row_R101 (i := 11) rfl
theorem dX12_row_23 : decode cX12_row 23 = .ok (.ireturn, 1) := dq_at daX12_row_R101 (i := 12) rfl
theorem dX12_row_24 : decode cX12_row 24 = .ok (.iload_n 3, 1) := dq_at daX12_row_R101 (i := 13) rfl
theorem dX12_row_25 : decode cX12_row 25 = .ok (.ifCond .ge 6, 3) := dq_at daX12_row_R101 (i := 14) rfl
theorem dX12_row_28 : decode cX12_row 28 = .ok (.bipush (-14), 2) := dq_at daX12_row_R101 (i := 15) rfl
theorem dX12_row_30 : decode cX12_row 30 = .ok (.ireturn, 1) := dq_at daX12_row_R101 (i := 16) rfl
theorem dX12_row_31 : decode cX12_row 31 = .ok (.aload_n 0, 1) := dq_at daX12_row_R101 (i := 17) rfl
theorem dX12_row_32 : decode cX12_row 32 = .ok (.getfield 102, 3) := dq_at daX12_row_R101 (i := 18) rfl
theorem dX12_row_35 : decode cX12_row 35 = .ok (.iload_n 1, 1) := dq_at daX12_row_R101 (i := 19) rfl
theorem dX12_row_36 : decode cX12_row 36 = .ok (.iconst (-1), 1) := dq_at daX12_row_R101 (i := 20) rfl
theorem dX12_row_37 : decode cX12_row 37 = .ok (.iastore, 1) := dq_at daX12_row_R101 (i := 21) rfl
theorem dX12_row_38 : decode cX12_row 38 = .ok (.aload_n 0, 1) := dq_at daX12_row_R101 (i := 22) rfl
theorem dX12_row_39 : decode cX12_row 39 = .ok (.getfield 105, 3) := dq_at daX12_row_R101 (i := 23) rfl
theorem dX12_row_42 : decode cX12_row 42 = .ok (.iload_n 1, 1) := dq_at daX12_row_R101 (i := 24) rfl
theorem dX12_row_43 : decode cX12_row 43 = .ok (.iload_n 2, 1) := dq_at daX12_row_R101 (i := 25) rfl
theorem dX12_row_44 : decode cX12_row 44 = .ok (.iastore, 1) := dq_at daX12_row_R101 (i := 26) rfl
theorem dX12_row_45 : decode cX12_row 45 = .ok (.aload_n 0, 1) := dq_at daX12_row_R101 (i := 27) rfl
theorem dX12_row_46 : decode cX12_row 46 = .ok (.getfield 108, 3) := dq_at daX12_row_R101 (i := 28) rfl
theorem dX12_row_49 : decode cX12_row 49 = .ok (.iload_n 1, 1) := dq_at daX12_row_R101 (i := 29) rfl
theorem dX12_row_50 : decode cX12_row 50 = .ok (.iload_n 3, 1) := dq_at daX12_row_R101 (i := 30) rfl
theorem dX12_row_51 : decode cX12_row 51 = .ok (.iastore, 1) := dq_at daX12_row_R101 (i := 31) rfl
theorem dX12_row_52 : decode cX12_row 52 = .ok (.iconst 0, 1) := dq_at daX12_row_R101 (i := 32) rfl
theorem dX12_row_53 : decode cX12_row 53 = .ok (.istore 4, 2) := dq_at daX12_row_R101 (i := 33) rfl
theorem dX12_row_55 : decode cX12_row 55 = .ok (.iload 4, 2) := dq_at daX12_row_R101 (i := 34) rfl
theorem dX12_row_57 : decode cX12_row 57 = .ok (.bipush 60, 2) := dq_at daX12_row_R101 (i := 35) rfl
theorem dX12_row_59 : decode cX12_row 59 = .ok (.if_icmp .ge 22, 3) := dq_at daX12_row_R101 (i := 36) rfl
theorem dX12_row_62 : decode cX12_row 62 = .ok (.aload_n 0, 1) := dq_at daX12_row_R101 (i := 37) rfl
theorem dX12_row_63 : decode cX12_row 63 = .ok (.getfield 111, 3) := dq_at daX12_row_R101 (i := 38) rfl
theorem dX12_row_66 : decode cX12_row 66 = .ok (.bipush 60, 2) := dq_at daX12_row_R101 (i := 39) rfl
theorem dX12_row_68 : decode cX12_row 68 = .ok (.iload_n 1, 1) := dq_at daX12_row_R101 (i := 40) rfl
theorem dX12_row_69 : decode cX12_row 69 = .ok (.imul, 1) := dq_at daX12_row_R101 (i := 41) rfl
theorem dX12_row_70 : decode cX12_row 70 = .ok (.iload 4, 2) := dq_at daX12_row_R101 (i := 42) rfl
theorem dX12_row_72 : decode cX12_row 72 = .ok (.iadd, 1) := dq_at daX12_row_R101 (i := 43) rfl
theorem dX12_row_73 : decode cX12_row 73 = .ok (.lconst 0, 1) := dq_at daX12_row_R101 (i := 44) rfl
theorem dX12_row_74 : decode cX12_row 74 = .ok (.lastore, 1) := dq_at daX12_row_R101 (i := 45) rfl
theorem dX12_row_75 : decode cX12_row 75 = .ok (.iinc 4 1, 3) := dq_at daX12_row_R101 (i := 46) rfl
theorem dX12_row_78 : decode cX12_row 78 = .ok (.goto (-23), 3) := dq_at daX12_row_R101 (i := 47) rfl
theorem dX12_row_81 : decode cX12_row 81 = .ok (.iconst 1, 1) := dq_at daX12_row_R101 (i := 48) rfl
theorem dX12_row_82 : decode cX12_row 82 = .ok (.ireturn, 1) := dq_at daX12_row_R101 (i := 49) rfl
noncomputable def csX12_barred : List (List Cond) := [[Cond.code yX12_barred cX12_barred 3 (some .int)], [Cond.fieldLink RX12 105 "SeatsRoundModel" "shelfSort" "[I", Cond.fieldLink RX12 102 "SeatsRoundModel" "shelfIs" "[I", Cond.fieldLink RX12 108 "SeatsRoundModel" "shelfSize" "[I", Cond.methodLink RX12 355 yX12_isShelf, Cond.static yX12_isShelf, Cond.initialized RX12, Cond.code yX12_isShelf cX12_isShelf 1 (some .boolean), Cond.methodLink RX12 136 yX12_in, Cond.static yX12_in, Cond.code yX12_in cX12_in 3 (some .boolean)], wsX120]
set_option maxRecDepth 20000 in
theorem ciX12_barred : ∀ l ∈ csX12_barred, ∀ w ∈ l, w ∈ wsX12_barred := by
  unfold csX12_barred
  refine List.forall_mem_cons.mpr ⟨fun _ h => List.mem_cons.mpr (Or.inl (List.mem_singleton.mp h)), List.forall_mem_cons.mpr ⟨fun _ h => List.mem_cons_of_mem _ (List.mem_append_left _ h), List.forall_mem_cons.mpr ⟨fun _ h => List.mem_cons_of_mem _ (List.mem_append_right _ h), fun l h => absurd h List.not_mem_nil⟩⟩⟩
set_option maxRecDepth 20000 in
theorem ggX12_barred_X12_isShelf : GoodIn wsX12_barred wsX12_isShelf := goodIn_r2 csX12_barred ciX12_barred _ [(1, 6), (1, 7), (1, 8), (1, 5), (1, 9)] rfl rfl
set_option maxRecDepth 20000 in
theorem gX12_barred_X12_isShelf : GoodIn wsX12_barred (va_wsS RX12 355 yX12_isShelf wsX12_isShelf) := goodIn_app (goodIn_r2 csX12_barred ciX12_barred _ [(1, 3), (1, 4), (1, 5)] rfl rfl) ggX12_barred_X12_isShelf
theorem daX12_barred_R102 : ([(0, .iload_n 1, 1), (1, .invokestatic 355, 3), (4, .ifCond .ne 5, 3), (7, .iconst (-1), 1), (8, .ireturn, 1), (9, .aload_n 0, 1), (10, .getfield 105, 3), (13, .iload_n 1, 1), (14, .iaload, 1), (15, .ifCond .ge 20, 3), (18, .aload_n 0, 1), (19, .getfield 102, 3), (22, .iload_n 1, 1), (23, .iaload, 1), (24, .ifCond .ge 8, 3), (27, .bipush (-11), 2), (29, .goto 5, 3), (34, .ireturn, 1)] : List (Nat × Instr × Nat)).all (fun x => decide (decode cX12_barred x.1 = .ok x.2)) = true := by decide +kernel
theorem dX12_barred_0 : decode cX12_barred 0 = .ok (.iload_n 1, 1) := dq_at daX12_barred_R102 (i := 0) rfl
theorem dX12_barred_1 : decode cX12_barred 1 = .ok (.invokestatic 355, 3) := dq_at daX12_barred_R102 (i := 1) rfl
theorem dX12_barred_4 : decode cX12_barred 4 = .ok (.ifCond .ne 5, 3) := dq_at daX12_barred_R102 (i := 2) rfl
theorem dX12_barred_7 : decode cX12_barred 7 = .ok (.iconst (-1), 1) := dq_at daX12_barred_R102 (i := 3) rfl
theorem dX12_barred_8 : decode cX12_barred 8 = .ok (.ireturn, 1) := dq_at daX12_barred_R102 (i := 4) rfl
theorem dX12_barred_9 : decode cX12_barred 9 = .ok (.aload_n 0, 1) := dq_at daX12_barred_R102 (i := 5) rfl
theorem dX12_barred_10 : decode cX12_barred 10 = .ok (.getfield 105, 3) := dq_at daX12_barred_R102 (i := 6) rfl
theorem dX12_barred_13 : decode cX12_barred 13 = .ok (.iload_n 1, 1) := dq_at daX12_barred_R102 (i := 7) rfl
theorem dX12_barred_14 : decode cX12_barred 14 = .ok (.iaload, 1) := dq_at daX12_barred_R102 (i := 8) rfl
theorem dX12_barred_15 : decode cX12_barred 15 = .ok (.ifCond .ge 20, 3) := dq_at daX12_barred_R102 (i := 9) rfl
theorem dX12_barred_18 : decode cX12_barred 18 = .ok (.aload_n 0, 1) := dq_at daX12_barred_R102 (i := 10) rfl
theorem dX12_barred_19 : decode cX12_barred 19 = .ok (.getfield 102, 3) := dq_at daX12_barred_R102 (i := 11) rfl
theorem dX12_barred_22 : decode cX12_barred 22 = .ok (.iload_n 1, 1) := dq_at daX12_barred_R102 (i := 12) rfl
theorem dX12_barred_23 : decode cX12_barred 23 = .ok (.iaload, 1) := dq_at daX12_barred_R102 (i := 13) rfl
theorem dX12_barred_24 : decode cX12_barred 24 = .ok (.ifCond .ge 8, 3) := dq_at daX12_barred_R102 (i := 14) rfl
theorem dX12_barred_27 : decode cX12_barred 27 = .ok (.bipush (-11), 2) := dq_at daX12_barred_R102 (i := 15) rfl
theorem dX12_barred_29 : decode cX12_barred 29 = .ok (.goto 5, 3) := dq_at daX12_barred_R102 (i := 16) rfl
theorem dX12_barred_34 : decode cX12_barred 34 = .ok (.ireturn, 1) := dq_at daX12_barred_R102 (i := 17) rfl
noncomputable def csX12_put : List (List Cond) := [[Cond.code yX12_put cX12_put 7 (some .int)], [Cond.fieldLink RX12 105 "SeatsRoundModel" "shelfSort" "[I", Cond.fieldLink RX12 111 "SeatsRoundModel" "elements" "[J", Cond.methodLink RX12 358 yX12_barred, Cond.instanceMethod yX12_barred, Cond.selects RX12 yX12_barred yX12_barred, Cond.initialized RX12, Cond.code yX12_barred cX12_barred 3 (some .int), Cond.fieldLink RX12 102 "SeatsRoundModel" "shelfIs" "[I", Cond.fieldLink RX12 108 "SeatsRoundModel" "shelfSize" "[I", Cond.methodLink RX12 355 yX12_isShelf, Cond.static yX12_isShelf, Cond.code yX12_isShelf cX12_isShelf 1 (some .boolean), Cond.methodLink RX12 136 yX12_in, Cond.static yX12_in, Cond.code yX12_in cX12_in 3 (some .boolean)], wsX120]
set_option maxRecDepth 20000 in
theorem ciX12_put : ∀ l ∈ csX12_put, ∀ w ∈ l, w ∈ wsX12_put := by
  unfold csX12_put
  refine List.forall_mem_cons.mpr ⟨fun _ h => List.mem_cons.mpr (Or.inl (List.mem_singleton.mp h)), List.forall_mem_cons.mpr ⟨fun _ h => List.mem_cons_of_mem _ (List.mem_append_left _ h), List.forall_mem_cons.mpr ⟨fun _ h => List.mem_cons_of_mem _ (List.mem_append_right _ h), fun l h => absurd h List.not_mem_nil⟩⟩⟩
set_option maxRecDepth 20000 in
theorem ggX12_put_X12_barred : GoodIn wsX12_put wsX12_barred := goodIn_r2 csX12_put ciX12_put _ [(1, 6), (1, 0), (1, 7), (1, 8), (1, 9), (1, 10), (1, 5), (1, 11), (1, 12), (1, 13), (1, 14), (2, 0), (2, 1), (2, 2), (2, 3), (2, 4), (2, 5), (2, 6), (2, 7), (2, 8), (2, 9), (2, 10), (2, 11), (2, 12), (2, 13), (2, 14), (2, 15), (2, 16), (2, 17), (2, 18), (2, 19), (2, 20), (2, 21), (2, 22), (2, 23), (2, 24), (2, 25), (2, 26), (2, 27), (2, 28), (2, 29), (2, 30), (2, 31), (2, 32), (2, 33), (2, 34), (2, 35), (2, 36), (2, 37), (2, 38), (2, 39), (2, 40), (2, 41), (2, 42), (2, 43), (2, 44), (2, 45), (2, 46), (2, 47), (2, 48), (2, 49), (2, 50), (2, 51), (2, 52), (2, 53), (2, 54), (2, 55), (2, 56), (2, 57), (2, 58)] rfl rfl
set_option maxRecDepth 20000 in
theorem gX12_put_X12_barred : GoodIn wsX12_put (wsV RX12 358 RX12 yX12_barred wsX12_barred) := goodIn_app (goodIn_r2 csX12_put ciX12_put _ [(1, 2), (1, 3), (1, 4), (1, 5)] rfl rfl) ggX12_put_X12_barred
theorem daX12_put_R103 : ([(0, .aload_n 0, 1), (1, .iload_n 1, 1), (2, .iload_n 2, 1), (3, .invokevirtual 358, 3), (6, .istore 5, 2), (8, .iload 5, 2), (10, .ifCond .eq 6, 3), (13, .iload 5, 2), (15, .ireturn, 1)] : List (Nat × Instr × Nat)).all (fun x => decide (decode cX12_put x.1 = .ok x.2)) = true := by decide +kernel
theorem dX12_put_0 : decode cX12_put 0 = .ok (.aload_n 0, 1) := dq_at daX12_put_R103 (i := 0) rfl
theorem dX12_put_1 : decode cX12_put 1 = .ok (.iload_n 1, 1) := dq_at daX12_put_R103 (i := 1) rfl
theorem dX12_put_2 : decode cX12_put 2 = .ok (.iload_n 2, 1) := dq_at daX12_put_R103 (i := 2) rfl
theorem dX12_put_3 : decode cX12_put 3 = .ok (.invokevirtual 358, 3) := dq_at daX12_put_R103 (i := 3) rfl
theorem dX12_put_6 : decode cX12_put 6 = .ok (.istore 5, 2) := dq_at daX12_put_R103 (i := 4) rfl
theorem dX12_put_8 : decode cX12_put 8 = .ok (.iload 5, 2) := dq_at daX12_put_R103 (i := 5) rfl
theorem dX12_put_10 : decode cX12_put 10 = .ok (.ifCond .eq 6, 3) := dq_at daX12_put_R103 (i := 6) rfl
theorem dX12_put_13 : decode cX12_put 13 = .ok (.iload 5, 2) := dq_at daX12_put_R103 (i := 7) rfl
theorem dX12_put_15 : decode cX12_put 15 = .ok (.ireturn, 1) := dq_at daX12_put_R103 (i := 8) rfl
noncomputable def csX12_element : List (List Cond) := [[Cond.code yX12_element cX12_element 3 (some .long)], [Cond.constantLong RX12 361 (-9223372036854775808), Cond.fieldLink RX12 111 "SeatsRoundModel" "elements" "[J", Cond.methodLink RX12 358 yX12_barred, Cond.instanceMethod yX12_barred, Cond.selects RX12 yX12_barred yX12_barred, Cond.initialized RX12, Cond.code yX12_barred cX12_barred 3 (some .int), Cond.fieldLink RX12 105 "SeatsRoundModel" "shelfSort" "[I", Cond.fieldLink RX12 102 "SeatsRoundModel" "shelfIs" "[I", Cond.fieldLink RX12 108 "SeatsRoundModel" "shelfSize" "[I", Cond.methodLink RX12 355 yX12_isShelf, Cond.static yX12_isShelf, Cond.code yX12_isShelf cX12_isShelf 1 (some .boolean), Cond.methodLink RX12 136 yX12_in, Cond.static yX12_in, Cond.code yX12_in cX12_in 3 (some .boolean)], wsX120]
set_option maxRecDepth 20000 in
theorem ciX12_element : ∀ l ∈ csX12_element, ∀ w ∈ l, w ∈ wsX12_element := by
  unfold csX12_element
  refine List.forall_mem_cons.mpr ⟨fun _ h => List.mem_cons.mpr (Or.inl (List.mem_singleton.mp h)), List.forall_mem_cons.mpr ⟨fun _ h => List.mem_cons_of_mem _ (List.mem_append_left _ h), List.forall_mem_cons.mpr ⟨fun _ h => List.mem_cons_of_mem _ (List.mem_append_right _ h), fun l h => absurd h List.not_mem_nil⟩⟩⟩
set_option maxRecDepth 20000 in
theorem ggX12_element_X12_barred : GoodIn wsX12_element wsX12_barred := goodIn_r2 csX12_element ciX12_element _ [(1, 6), (1, 7), (1, 8), (1, 9), (1, 10), (1, 11), (1, 5), (1, 12), (1, 13), (1, 14), (1, 15), (2, 0), (2, 1), (2, 2), (2, 3), (2, 4), (2, 5), (2, 6), (2, 7), (2, 8), (2, 9), (2, 10), (2, 11), (2, 12), (2, 13), (2, 14), (2, 15), (2, 16), (2, 17), (2, 18), (2, 19), (2, 20), (2, 21), (2, 22), (2, 23), (2, 24), (2, 25), (2, 26), (2, 27), (2, 28), (2, 29), (2, 30), (2, 31), (2, 32), (2, 33), (2, 34), (2, 35), (2, 36), (2, 37), (2, 38), (2, 39), (2, 40), (2, 41), (2, 42), (2, 43), (2, 44), (2, 45), (2, 46), (2, 47), (2, 48), (2, 49), (2, 50), (2, 51), (2, 52), (2, 53), (2, 54), (2, 55), (2, 56), (2, 57), (2, 58)] rfl rfl
set_option maxRecDepth 20000 in
theorem gX12_element_X12_barred : GoodIn wsX12_element (wsV RX12 358 RX12 yX12_barred wsX12_barred) := goodIn_app (goodIn_r2 csX12_element ciX12_element _ [(1, 2), (1, 3), (1, 4), (1, 5)] rfl rfl) ggX12_element_X12_barred
theorem daX12_element_R104 : ([(0, .aload_n 0, 1), (1, .iload_n 1, 1), (2, .iload_n 2, 1), (3, .invokevirtual 358, 3), (6, .ifCond .eq 9, 3), (9, .ldc2_w 361, 3), (12, .goto 14, 3), (26, .lreturn, 1)] : List (Nat × Instr × Nat)).all (fun x => decide (decode cX12_element x.1 = .ok x.2)) = true := by decide +kernel
theorem dX12_element_0 : decode cX12_element 0 = .ok (.aload_n 0, 1) := dq_at daX12_element_R104 (i := 0) rfl
theorem dX12_element_1 : decode cX12_element 1 = .ok (.iload_n 1, 1) := dq_at daX12_element_R104 (i := 1) rfl
theorem dX12_element_2 : decode cX12_element 2 = .ok (.iload_n 2, 1) := dq_at daX12_element_R104 (i := 2) rfl
theorem dX12_element_3 : decode cX12_element 3 = .ok (.invokevirtual 358, 3) := dq_at daX12_element_R104 (i := 3) rfl
theorem dX12_element_6 : decode cX12_element 6 = .ok (.ifCond .eq 9, 3) := dq_at daX12_element_R104 (i := 4) rfl
theorem dX12_element_9 : decode cX12_element 9 = .ok (.ldc2_w 361, 3) := dq_at daX12_element_R104 (i := 5) rfl
theorem dX12_element_12 : decode cX12_element 12 = .ok (.goto 14, 3) := dq_at daX12_element_R104 (i := 6) rfl
theorem dX12_element_26 : decode cX12_element 26 = .ok (.lreturn, 1) := dq_at daX12_element_R104 (i := 7) rfl
noncomputable def csX12_shift : List (List Cond) := [[Cond.code yX12_shift cX12_shift 10 (some .int)], [Cond.fieldLink RX12 105 "SeatsRoundModel" "shelfSort" "[I", Cond.fieldLink RX12 102 "SeatsRoundModel" "shelfIs" "[I", Cond.fieldLink RX12 108 "SeatsRoundModel" "shelfSize" "[I", Cond.fieldLink RX12 111 "SeatsRoundModel" "elements" "[J", Cond.methodLink RX12 355 yX12_isShelf, Cond.static yX12_isShelf, Cond.initialized RX12, Cond.code yX12_isShelf cX12_isShelf 1 (some .boolean), Cond.methodLink RX12 136 yX12_in, Cond.static yX12_in, Cond.code yX12_in cX12_in 3 (some .boolean)], wsX120]
set_option maxRecDepth 20000 in
theorem ciX12_shift : ∀ l ∈ csX12_shift, ∀ w ∈ l, w ∈ wsX12_shift := by
  unfold csX12_shift
  refine List.forall_mem_cons.mpr ⟨fun _ h => List.mem_cons.mpr (Or.inl (List.mem_singleton.mp h)), List.forall_mem_cons.mpr ⟨fun _ h => List.mem_cons_of_mem _ (List.mem_append_left _ h), List.forall_mem_cons.mpr ⟨fun _ h => List.mem_cons_of_mem _ (List.mem_append_right _ h), fun l h => absurd h List.not_mem_nil⟩⟩⟩
set_option maxRecDepth 20000 in
theorem ggX12_shift_X12_isShelf : GoodIn wsX12_shift wsX12_isShelf := goodIn_r2 csX12_shift ciX12_shift _ [(1, 7), (1, 8), (1, 9), (1, 6), (1, 10)] rfl rfl
set_option maxRecDepth 20000 in
theorem gX12_shift_X12_isShelf : GoodIn wsX12_shift (va_wsS RX12 355 yX12_isShelf wsX12_isShelf) := goodIn_app (goodIn_r2 csX12_shift ciX12_shift _ [(1, 4), (1, 5), (1, 6)] rfl rfl) ggX12_shift_X12_isShelf
theorem daX12_shift_R105 : ([(0, .iload_n 1, 1), (1, .invokestatic 355, 3), (4, .ifCond .eq 10, 3), (7, .iload_n 3, 1), (8, .invokestatic 355, 3), (11, .ifCond .ne 5, 3), (14, .iconst (-1), 1), (15, .ireturn, 1), (16, .aload_n 0, 1), (17, .getfield 105, 3), (20, .iload_n 1, 1), (21, .iaload, 1), (22, .ifCond .ge 12, 3), (25, .aload_n 0, 1), (26, .getfield 102, 3), (29, .iload_n 1, 1), (30, .iaload, 1), (31, .ifCond .lt 21, 3), (52, .bipush (-11), 2), (54, .ireturn, 1)] : List (Nat × Instr × Nat)).all (fun x => decide (decode cX12_shift x.1 = .ok x.2)) = true := by decide +kernel
theorem dX12_shift_0 : decode cX12_shift 0 = .ok (.iload_n 1, 1) := dq_at daX12_shift_R105 (i := 0) rfl
theorem dX12_shift_1 : decode cX12_shift 1 = .ok (.invokestatic 355, 3) := dq_at daX12_shift_R105 (i := 1) rfl
theorem dX12_shift_4 : decode cX12_shift 4 = .ok (.ifCond .eq 10, 3) := dq_at daX12_shift_R105 (i := 2) rfl
theorem dX12_shift_7 : decode cX12_shift 7 = .ok (.iload_n 3, 1) := dq_at daX12_shift_R105 (i := 3) rfl
theorem dX12_shift_8 : decode cX12_shift 8 = .ok (.invokestatic 355, 3) := dq_at daX12_shift_R105 (i := 4) rfl
theorem dX12_shift_11 : decode cX12_shift 11 = .ok (.ifCond .ne 5, 3) := dq_at daX12_shift_R105 (i := 5) rfl
theorem dX12_shift_14 : decode cX12_shift 14 = .ok (.iconst (-1), 1) := dq_at daX12_shift_R105 (i := 6) rfl
theorem dX12_shift_15 : decode cX12_shift 15 = .ok (.ireturn, 1) := dq_at daX12_shift_R105 (i := 7) rfl
theorem dX12_shift_16 : decode cX12_shift 16 = .ok (.aload_n 0, 1) := dq_at daX12_shift_R105 (i := 8) rfl
theorem dX12_shift_17 : decode cX12_shift 17 = .ok (.getfield 105, 3) := dq_at daX12_shift_R105 (i := 9) rfl
theorem dX12_shift_20 : decode cX12_shift 20 = .ok (.iload_n 1, 1) := dq_at daX12_shift_R105 (i := 10) rfl
theorem dX12_shift_21 : decode cX12_shift 21 = .ok (.iaload, 1) := dq_at daX12_shift_R105 (i := 11) rfl
theorem dX12_shift_22 : decode cX12_shift 22 = .ok (.ifCond .ge 12, 3) := dq_at daX12_shift_R105 (i := 12) rfl
theorem dX12_shift_25 : decode cX12_shift 25 = .ok (.aload_n 0, 1) := dq_at daX12_shift_R105 (i := 13) rfl
theorem dX12_shift_26 : decode cX12_shift 26 = .ok (.getfield 102, 3) := dq_at daX12_shift_R105 (i := 14) rfl
theorem dX12_shift_29 : decode cX12_shift 29 = .ok (.iload_n 1, 1) := dq_at daX12_shift_R105 (i := 15) rfl
theorem dX12_shift_30 : decode cX12_shift 30 = .ok (.iaload, 1) := dq_at daX12_shift_R105 (i := 16) rfl
theorem dX12_shift_31 : decode cX12_shift 31 = .ok (.ifCond .lt 21, 3) := dq_at daX12_shift_R105 (i := 17) rfl
theorem dX12_shift_52 : decode cX12_shift 52 = .ok (.bipush (-11), 2) := dq_at daX12_shift_R105 (i := 18) rfl
theorem dX12_shift_54 : decode cX12_shift 54 = .ok (.ireturn, 1) := dq_at daX12_shift_R105 (i := 19) rfl
noncomputable def csX12_taken : List (List Cond) := [[Cond.code yX12_taken cX12_taken 4 (some .int)], [Cond.fieldLink RX12 105 "SeatsRoundModel" "shelfSort" "[I", Cond.fieldLink RX12 102 "SeatsRoundModel" "shelfIs" "[I", Cond.fieldLink RX12 22 "SeatsRoundModel" "kind" "[I", Cond.methodLink RX12 355 yX12_isShelf, Cond.static yX12_isShelf, Cond.initialized RX12, Cond.code yX12_isShelf cX12_isShelf 1 (some .boolean), Cond.methodLink RX12 136 yX12_in, Cond.static yX12_in, Cond.code yX12_in cX12_in 3 (some .boolean)], wsX120]
set_option maxRecDepth 20000 in
theorem ciX12_taken : ∀ l ∈ csX12_taken, ∀ w ∈ l, w ∈ wsX12_taken := by
  unfold csX12_taken
  refine List.forall_mem_cons.mpr ⟨fun _ h => List.mem_cons.mpr (Or.inl (List.mem_singleton.mp h)), List.forall_mem_cons.mpr ⟨fun _ h => List.mem_cons_of_mem _ (List.mem_append_left _ h), List.forall_mem_cons.mpr ⟨fun _ h => List.mem_cons_of_mem _ (List.mem_append_right _ h), fun l h => absurd h List.not_mem_nil⟩⟩⟩
set_option maxRecDepth 20000 in
theorem ggX12_taken_X12_isShelf : GoodIn wsX12_taken wsX12_isShelf := goodIn_r2 csX12_taken ciX12_taken _ [(1, 6), (1, 7), (1, 8), (1, 5), (1, 9)] rfl rfl
set_option maxRecDepth 20000 in
theorem gX12_taken_X12_isShelf : GoodIn wsX12_taken (va_wsS RX12 355 yX12_isShelf wsX12_isShelf) := goodIn_app (goodIn_r2 csX12_taken ciX12_taken _ [(1, 3), (1, 4), (1, 5)] rfl rfl) ggX12_taken_X12_isShelf
set_option maxRecDepth 20000 in
theorem ggX12_taken_X12_in : GoodIn wsX12_taken wsX12_in := goodIn_r2 csX12_taken ciX12_taken _ [(1, 9)] rfl rfl
set_option maxRecDepth 20000 in
theorem gX12_taken_X12_in : GoodIn wsX12_taken (va_wsS RX12 136 yX12_in wsX12_in) := goodIn_app (goodIn_r2 csX12_taken ciX12_taken _ [(1, 7), (1, 8), (1, 5)] rfl rfl) ggX12_taken_X12_in
theorem daX12_taken_R106 : ([(0, .iload_n 1, 1), (1, .invokestatic 355, 3), (4, .ifCond .eq 13, 3), (7, .iload_n 2, 1), (8, .iconst 0, 1), (9, .bipush 6, 2), (11, .invokestatic 136, 3), (14, .ifCond .ne 5, 3), (17, .iconst (-1), 1), (18, .ireturn, 1), (19, .aload_n 0, 1), (20, .getfield 105, 3), (23, .iload_n 1, 1), (24, .iaload, 1), (25, .ifCond .ge 15, 3), (28, .aload_n 0, 1), (29, .getfield 102, 3), (32, .iload_n 1, 1), (33, .iaload, 1), (34, .ifCond .ge 6, 3), (37, .bipush (-11), 2), (39, .ireturn, 1)] : List (Nat × Instr × Nat)).all (fun x => decide (decode cX12_taken x.1 = .ok x.2)) = true := by decide +kernel
theorem dX12_taken_0 : decode cX12_taken 0 = .ok (.iload_n 1, 1) := dq_at daX12_taken_R106 (i := 0) rfl
theorem dX12_taken_1 : decode cX12_taken 1 = .ok (.invokestatic 355, 3) := dq_at daX12_taken_R106 (i := 1) rfl
theorem dX12_taken_4 : decode cX12_taken 4 = .ok (.ifCond .eq 13, 3) := dq_at daX12_taken_R106 (i := 2) rfl
theorem dX12_taken_7 : decode cX12_taken 7 = .ok (.iload_n 2, 1) := dq_at daX12_taken_R106 (i := 3) rfl
theorem dX12_taken_8 : decode cX12_taken 8 = .ok (.iconst 0, 1) := dq_at daX12_taken_R106 (i := 4) rfl
theorem dX12_taken_9 : decode cX12_taken 9 = .ok (.bipush 6, 2) := dq_at daX12_taken_R106 (i := 5) rfl
theorem dX12_taken_11 : decode cX12_taken 11 = .ok (.invokestatic 136, 3) := dq_at daX12_taken_R106 (i := 6) rfl
theorem dX12_taken_14 : decode cX12_taken 14 = .ok (.ifCond .ne 5, 3) := dq_at daX12_taken_R106 (i := 7) rfl
theorem dX12_taken_17 : decode cX12_taken 17 = .ok (.iconst (-1), 1) := dq_at daX12_taken_R106 (i := 8) rfl
theorem dX12_taken_18 : decode cX12_taken 18 = .ok (.ireturn, 1) := dq_at daX12_taken_R106 (i := 9) rfl
theorem dX12_taken_19 : decode cX12_taken 19 = .ok (.aload_n 0, 1) := dq_at daX12_taken_R106 (i := 10) rfl
theorem dX12_taken_20 : decode cX12_taken 20 = .ok (.getfield 105, 3) := dq_at daX12_taken_R106 (i := 11) rfl
theorem dX12_taken_23 : decode cX12_taken 23 = .ok (.iload_n 1, 1) := dq_at daX12_taken_R106 (i := 12) rfl
theorem dX12_taken_24 : decode cX12_taken 24 = .ok (.iaload, 1) := dq_at daX12_taken_R106 (i := 13) rfl
theorem dX12_taken_25 : decode cX12_taken 25 = .ok (.ifCond .ge 15, 3) := dq_at daX12_taken_R106 (i := 14) rfl
theorem dX12_taken_28 : decode cX12_taken 28 = .ok (.aload_n 0, 1) := dq_at daX12_taken_R106 (i := 15) rfl
theorem dX12_taken_29 : decode cX12_taken 29 = .ok (.getfield 102, 3) := dq_at daX12_taken_R106 (i := 16) rfl
theorem dX12_taken_32 : decode cX12_taken 32 = .ok (.iload_n 1, 1) := dq_at daX12_taken_R106 (i := 17) rfl
theorem dX12_taken_33 : decode cX12_taken 33 = .ok (.iaload, 1) := dq_at daX12_taken_R106 (i := 18) rfl
theorem dX12_taken_34 : decode cX12_taken 34 = .ok (.ifCond .ge 6, 3) := dq_at daX12_taken_R106 (i := 19) rfl
theorem dX12_taken_37 : decode cX12_taken 37 = .ok (.bipush (-11), 2) := dq_at daX12_taken_R106 (i := 20) rfl
theorem dX12_taken_39 : decode cX12_taken 39 = .ok (.ireturn, 1) := dq_at daX12_taken_R106 (i := 21) rfl
noncomputable def csX12_names : List (List Cond) := [[Cond.code yX12_names cX12_names 11 (some .int)], [Cond.fieldLink RX12 102 "SeatsRoundModel" "shelfIs" "[I", Cond.fieldLink RX12 105 "SeatsRoundModel" "shelfSort" "[I", Cond.fieldLink RX12 108 "SeatsRoundModel" "shelfSize" "[I", Cond.fieldLink RX12 111 "SeatsRoundModel" "elements" "[J", Cond.fieldLink RX12 115 "SeatsRoundModel" "told" "[I", Cond.fieldLink RX12 133 "SeatsRoundModel" "names" "I", Cond.methodLink RX12 355 yX12_isShelf, Cond.static yX12_isShelf, Cond.initialized RX12, Cond.code yX12_isShelf cX12_isShelf 1 (some .boolean), Cond.methodLink RX12 136 yX12_in, Cond.static yX12_in, Cond.code yX12_in cX12_in 3 (some .boolean), Cond.methodLink RX12 149 yX12_found, Cond.instanceMethod yX12_found, Cond.selects RX12 yX12_found yX12_found, Cond.code yX12_found cX12_found 5 (some .int), Cond.fieldLink RX12 7 "SeatsRoundModel" "nameSize" "[I", Cond.fieldLink RX12 13 "SeatsRoundModel" "nameByte" "[I", Cond.methodLink RX12 153 yX12_comesName, Cond.instanceMethod yX12_comesName, Cond.selects RX12 yX12_comesName yX12_comesName, Cond.code yX12_comesName cX12_comesName 3 none], wsX120]
set_option maxRecDepth 20000 in
theorem ciX12_names : ∀ l ∈ csX12_names, ∀ w ∈ l, w ∈ wsX12_names := by
  unfold csX12_names
  refine List.forall_mem_cons.mpr ⟨fun _ h => List.mem_cons.mpr (Or.inl (List.mem_singleton.mp h)), List.forall_mem_cons.mpr ⟨fun _ h => List.mem_cons_of_mem _ (List.mem_append_left _ h), List.forall_mem_cons.mpr ⟨fun _ h => List.mem_cons_of_mem _ (List.mem_append_right _ h), fun l h => absurd h List.not_mem_nil⟩⟩⟩
set_option maxRecDepth 20000 in
theorem ggX12_names_X12_isShelf : GoodIn wsX12_names wsX12_isShelf := goodIn_r2 csX12_names ciX12_names _ [(1, 9), (1, 10), (1, 11), (1, 8), (1, 12)] rfl rfl
set_option maxRecDepth 20000 in
theorem gX12_names_X12_isShelf : GoodIn wsX12_names (va_wsS RX12 355 yX12_isShelf wsX12_isShelf) := goodIn_app (goodIn_r2 csX12_names ciX12_names _ [(1, 6), (1, 7), (1, 8)] rfl rfl) ggX12_names_X12_isShelf
set_option maxRecDepth 20000 in
theorem ggX12_names_X12_in : GoodIn wsX12_names wsX12_in := goodIn_r2 csX12_names ciX12_names _ [(1, 12)] rfl rfl
set_option maxRecDepth 20000 in
theorem gX12_names_X12_in : GoodIn wsX12_names (va_wsS RX12 136 yX12_in wsX12_in) := goodIn_app (goodIn_r2 csX12_names ciX12_names _ [(1, 10), (1, 11), (1, 8)] rfl rfl) ggX12_names_X12_in
theorem daX12_names_R107 : ([(0, .iload_n 1, 1), (1, .invokestatic 355, 3), (4, .ifCond .eq 13, 3), (7, .iload_n 3, 1), (8, .iconst 1, 1), (9, .bipush 20, 2), (11, .invokestatic 136, 3), (14, .ifCond .ne 5, 3), (17, .iconst (-1), 1), (18, .ireturn, 1), (19, .aload_n 0, 1), (20, .getfield 102, 3), (23, .iload_n 1, 1), (24, .iaload, 1), (25, .ifCond .ge 12, 3), (28, .aload_n 0, 1), (29, .getfield 105, 3), (32, .iload_n 1, 1), (33, .iaload, 1), (34, .ifCond .le 6, 3), (40, .aload_n 0, 1), (41, .getfield 105, 3), (44, .iload_n 1, 1), (45, .iaload, 1), (46, .ifCond .ne 12, 3), (58, .iconst 0, 1), (59, .istore 4, 2), (61, .iload_n 2, 1), (62, .ifCond .ge 8, 3), (65, .iload 4, 2), (67, .goto 4, 3), (70, .iload_n 2, 1), (71, .istore 5, 2), (73, .iconst 0, 1), (74, .istore 6, 2), (76, .iconst 1, 1), (77, .istore 7, 2), (79, .iconst 0, 1), (80, .istore 8, 2), (82, .iload 8, 2), (84, .iload_n 3, 1), (85, .if_icmp .ge 202, 3), (88, .iload 7, 2), (90, .ifCond .eq 197, 3), (93, .iload 5, 2), (95, .iload 4, 2), (97, .if_icmp .ge 19, 3), (116, .iconst 0, 1), (117, .istore 9, 2), (119, .iload 9, 2), (121, .iconst 1, 1), (122, .bipush 6, 2), (124, .invokestatic 136, 3), (127, .ifCond .eq 17, 3), (144, .iconst 0, 1), (145, .istore 7, 2), (147, .iconst 0, 1), (148, .istore 10, 2), (150, .iload 10, 2), (152, .iload 9, 2)] : List (Nat × Instr × Nat)).all (fun x => decide (decode cX12_names x.1 = .ok x.2)) = true := by decide +kernel
theorem dX12_names_0 : decode cX12_names 0 = .ok (.iload_n 1, 1) := dq_at daX12_names_R107 (i := 0) rfl
theorem dX12_names_1 : decode cX12_names 1 = .ok (.invokestatic 355, 3) := dq_at daX12_names_R107 (i := 1) rfl
theorem dX12_names_4 : decode cX12_names 4 = .ok (.ifCond .eq 13, 3) := dq_at daX12_names_R107 (i := 2) rfl
theorem dX12_names_7 : decode cX12_names 7 = .ok (.iload_n 3, 1) := dq_at daX12_names_R107 (i := 3) rfl
theorem dX12_names_8 : decode cX12_names 8 = .ok (.iconst 1, 1) := dq_at daX12_names_R107 (i := 4) rfl
theorem dX12_names_9 : decode cX12_names 9 = .ok (.bipush 20, 2) := dq_at daX12_names_R107 (i := 5) rfl
theorem dX12_names_11 : decode cX12_names 11 = .ok (.invokestatic 136, 3) := dq_at daX12_names_R107 (i := 6) rfl
theorem dX12_names_14 : decode cX12_names 14 = .ok (.ifCond .ne 5, 3) := dq_at daX12_names_R107 (i := 7) rfl
theorem dX12_names_17 : decode cX12_names 17 = .ok (.iconst (-1), 1) := dq_at daX12_names_R107 (i := 8) rfl
theorem dX12_names_18 : decode cX12_names 18 = .ok (.ireturn, 1) := dq_at daX12_names_R107 (i := 9) rfl
theorem dX12_names_19 : decode cX12_names 19 = .ok (.aload_n 0, 1) := dq_at daX12_names_R107 (i := 10) rfl
theorem dX12_names_20 : decode cX12_names 20 = .ok (.getfield 102, 3) := dq_at daX12_names_R107 (i := 11) rfl
theorem dX12_names_23 : decode cX12_names 23 = .ok (.iload_n 1, 1) := dq_at daX12_names_R107 (i := 12) rfl
theorem dX12_names_24 : decode cX12_names 24 = .ok (.iaload, 1) := dq_at daX12_names_R107 (i := 13) rfl
theorem dX12_names_25 : decode cX12_names 25 = .ok (.ifCond .ge 12, 3) := dq_at daX12_names_R107 (i := 14) rfl
theorem dX12_names_28 : decode cX12_names 28 = .ok (.aload_n 0, 1) := dq_at daX12_names_R107 (i := 15) rfl
theorem dX12_names_29 : decode cX12_names 29 = .ok (.getfield 105, 3) := dq_at daX12_names_R107 (i := 16) rfl
theorem dX12_names_32 : decode cX12_names 32 = .ok (.iload_n 1, 1) := dq_at daX12_names_R107 (i := 17) rfl
theorem dX12_names_33 : decode cX12_names 33 = .ok (.iaload, 1) := dq_at daX12_names_R107 (i := 18) rfl
theorem dX12_names_34 : decode cX12_names 34 = .ok (.ifCond .le 6, 3) := dq_at daX12_names_R107 (i := 19) rfl
theorem dX12_names_40 : decode cX12_names 40 = .ok (.aload_n 0, 1) := dq_at daX12_names_R107 (i := 20) rfl
theorem dX12_names_41 : decode cX12_names 41 = .ok (.getfield 105, 3) := dq_at daX12_names_R107 (i := 21) rfl
theorem dX12_names_44 : decode cX12_names 44 = .ok (.iload_n 1, 1) := dq_at daX12_names_R107 (i := 22) rfl
theorem dX12_names_45 : decode cX12_names 45 = .ok (.iaload, 1) := dq_at daX12_names_R107 (i := 23) rfl
theorem dX12_names_46 : decode cX12_names 46 = .ok (.ifCond .ne 12, 3) := dq_at daX12_names_R107 (i := 24) rfl
theorem dX12_names_58 : decode cX12_names 58 = .ok (.iconst 0, 1) := dq_at daX12_names_R107 (i := 25) rfl
theorem dX12_names_59 : decode cX12_names 59 = .ok (.istore 4, 2) := dq_at daX12_names_R107 (i := 26) rfl
theorem dX12_names_61 : decode cX12_names 61 = .ok (.iload_n 2, 1) := dq_at daX12_names_R107 (i := 27) rfl
theorem dX12_names_62 : decode cX12_names 62 = .ok (.ifCond .ge 8, 3) := dq_at daX12_names_R107 (i := 28) rfl
theorem dX12_names_65 : decode cX12_names 65 = .ok (.iload 4, 2) := dq_at daX12_names_R107 (i := 29) rfl
theorem dX12_names_67 : decode cX12_names 67 = .ok (.goto 4, 3) := dq_at daX12_names_R107 (i := 30) rfl
theorem dX12_names_70 : decode cX12_names 70 = .ok (.iload_n 2, 1) := dq_at daX12_names_R107 (i := 31) rfl
theorem dX12_names_71 : decode cX12_names 71 = .ok (.istore 5, 2) := dq_at daX12_names_R107 (i := 32) rfl
theorem dX12_names_73 : decode cX12_names 73 = .ok (.iconst 0, 1) := dq_at daX12_names_R107 (i := 33) rfl
theorem dX12_names_74 : decode cX12_names 74 = .ok (.istore 6, 2) := dq_at daX12_names_R107 (i := 34) rfl
theorem dX12_names_76 : decode cX12_names 76 = .ok (.iconst 1, 1) := dq_at daX12_names_R107 (i := 35) rfl
theorem dX12_names_77 : decode cX12_names 77 = .ok (.istore 7, 2) := dq_at daX12_names_R107 (i := 36) rfl
theorem dX12_names_79 : decode cX12_names 79 = .ok (.iconst 0, 1) := dq_at daX12_names_R107 (i := 37) rfl
theorem dX12_names_80 : decode cX12_names 80 = .ok (.istore 8, 2) := dq_at daX12_names_R107 (i := 38) rfl
theorem dX12_names_82 : decode cX12_names 82 = .ok (.iload 8, 2) := dq_at daX12_names_R107 (i := 39) rfl
theorem dX12_names_84 : decode cX12_names 84 = .ok (.iload_n 3, 1) := dq_at daX12_names_R107 (i := 40) rfl
theorem dX12_names_85 : decode cX12_names 85 = .ok (.if_icmp .ge 202, 3) := dq_at daX12_names_R107 (i := 41) rfl
theorem dX12_names_88 : decode cX12_names 88 = .ok (.iload 7, 2) := dq_at daX12_names_R107 (i := 42) rfl
theorem dX12_names_90 : decode cX12_names 90 = .ok (.ifCond .eq 197, 3) := dq_at daX12_names_R107 (i := 43) rfl
theorem dX12_names_93 : decode cX12_names 93 = .ok (.iload 5, 2) := dq_at daX12_names_R107 (i := 44) rfl
theorem dX12_names_95 : decode cX12_names 95 = .ok (.iload 4, 2) := dq_at daX12_names_R107 (i := 45) rfl
theorem dX12_names_97 : decode cX12_names 97 = .ok (.if_icmp .ge 19, 3) := dq_at daX12_names_R107 (i := 46) rfl
theorem dX12_names_116 : decode cX12_names 116 = .ok (.iconst 0, 1) := dq_at daX12_names_R107 (i := 47) rfl
theorem dX12_names_117 : decode cX12_names 117 = .ok (.istore 9, 2) := dq_at daX12_names_R107 (i := 48) rfl
theorem dX12_names_119 : decode cX12_names 119 = .ok (.iload 9, 2) := dq_at daX12_names_R107 (i := 49) rfl
theorem dX12_names_121 : decode cX12_names 121 = .ok (.iconst 1, 1) := dq_at daX12_names_R107 (i := 50) rfl
theorem dX12_names_122 : decode cX12_names 122 = .ok (.bipush 6, 2) := dq_at daX12_names_R107 (i := 51) rfl
theorem dX12_names_124 : decode cX12_names 124 = .ok (.invokestatic 136, 3) := dq_at daX12_names_R107 (i := 52) rfl
theorem dX12_names_127 : decode cX12_names 127 = .ok (.ifCond .eq 17, 3) := dq_at daX12_names_R107 (i := 53) rfl
theorem dX12_names_144 : decode cX12_names 144 = .ok (.iconst 0, 1) := dq_at daX12_names_R107 (i := 54) rfl
theorem dX12_names_145 : decode cX12_names 145 = .ok (.istore 7, 2) := dq_at daX12_names_R107 (i := 55) rfl
theorem dX12_names_147 : decode cX12_names 147 = .ok (.iconst 0, 1) := dq_at daX12_names_R107 (i := 56) rfl
theorem dX12_names_148 : decode cX12_names 148 = .ok (.istore 10, 2) := dq_at daX12_names_R107 (i := 57) rfl
theorem dX12_names_150 : decode cX12_names 150 = .ok (.iload 10, 2) := dq_at daX12_names_R107 (i := 58) rfl
theorem dX12_names_152 : decode cX12_names 152 = .ok (.iload 9, 2) := dq_at daX12_names_R107 (i := 59) rfl
theorem daX12_names_R108 : ([(154, .if_icmp .ge 43, 3), (197, .iload 7, 2), (199, .ifCond .eq 16, 3), (215, .iconst 0, 1), (216, .istore 10, 2), (218, .iload 7, 2), (220, .ifCond .eq 21, 3), (241, .iconst 0, 1), (242, .istore 7, 2), (244, .iload 7, 2), (246, .ifCond .eq 17, 3), (263, .iload 5, 2), (265, .iload 7, 2), (267, .ifCond .eq 10, 3), (277, .iconst 0, 1), (278, .iadd, 1), (279, .istore 5, 2), (281, .iinc 8 1, 3), (284, .goto (-202), 3), (287, .iload 6, 2), (289, .ireturn, 1)] : List (Nat × Instr × Nat)).all (fun x => decide (decode cX12_names x.1 = .ok x.2)) = true := by decide +kernel
theorem dX12_names_154 : decode cX12_names 154 = .ok (.if_icmp .ge 43, 3) := dq_at daX12_names_R108 (i := 0) rfl
theorem dX12_names_197 : decode cX12_names 197 = .ok (.iload 7, 2) := dq_at daX12_names_R108 (i := 1) rfl
theorem dX12_names_199 : decode cX12_names 199 = .ok (.ifCond .eq 16, 3) := dq_at daX12_names_R108 (i := 2) rfl
theorem dX12_names_215 : decode cX12_names 215 = .ok (.iconst 0, 1) := dq_at daX12_names_R108 (i := 3) rfl
theorem dX12_names_216 : decode cX12_names 216 = .ok (.istore 10, 2) := dq_at daX12_names_R108 (i := 4) rfl
theorem dX12_names_218 : decode cX12_names 218 = .ok (.iload 7, 2) := dq_at daX12_names_R108 (i := 5) rfl
theorem dX12_names_220 : decode cX12_names 220 = .ok (.ifCond .eq 21, 3) := dq_at daX12_names_R108 (i := 6) rfl
theorem dX12_names_241 : decode cX12_names 241 = .ok (.iconst 0, 1) := dq_at daX12_names_R108 (i := 7) rfl
theorem dX12_names_242 : decode cX12_names 242 = .ok (.istore 7, 2) := dq_at daX12_names_R108 (i := 8) rfl
theorem dX12_names_244 : decode cX12_names 244 = .ok (.iload 7, 2) := dq_at daX12_names_R108 (i := 9) rfl
theorem dX12_names_246 : decode cX12_names 246 = .ok (.ifCond .eq 17, 3) := dq_at daX12_names_R108 (i := 10) rfl
theorem dX12_names_263 : decode cX12_names 263 = .ok (.iload 5, 2) := dq_at daX12_names_R108 (i := 11) rfl
theorem dX12_names_265 : decode cX12_names 265 = .ok (.iload 7, 2) := dq_at daX12_names_R108 (i := 12) rfl
theorem dX12_names_267 : decode cX12_names 267 = .ok (.ifCond .eq 10, 3) := dq_at daX12_names_R108 (i := 13) rfl
theorem dX12_names_277 : decode cX12_names 277 = .ok (.iconst 0, 1) := dq_at daX12_names_R108 (i := 14) rfl
theorem dX12_names_278 : decode cX12_names 278 = .ok (.iadd, 1) := dq_at daX12_names_R108 (i := 15) rfl
theorem dX12_names_279 : decode cX12_names 279 = .ok (.istore 5, 2) := dq_at daX12_names_R108 (i := 16) rfl
theorem dX12_names_281 : decode cX12_names 281 = .ok (.iinc 8 1, 3) := dq_at daX12_names_R108 (i := 17) rfl
theorem dX12_names_284 : decode cX12_names 284 = .ok (.goto (-202), 3) := dq_at daX12_names_R108 (i := 18) rfl
theorem dX12_names_287 : decode cX12_names 287 = .ok (.iload 6, 2) := dq_at daX12_names_R108 (i := 19) rfl
theorem dX12_names_289 : decode cX12_names 289 = .ok (.ireturn, 1) := dq_at daX12_names_R108 (i := 20) rfl
theorem daX12_count_R109 : ([(0, .iconst 0, 1), (1, .istore_n 2, 1), (2, .iload_n 1, 1), (3, .tableswitch 111 0 7 #[45, 50, 55, 60, 65, 65, 101, 106], 45), (48, .aload_n 0, 1), (49, .getfield 133, 3), (52, .ireturn, 1), (53, .aload_n 0, 1), (54, .getfield 140, 3), (57, .ireturn, 1), (58, .aload_n 0, 1), (59, .getfield 143, 3), (62, .ireturn, 1), (63, .aload_n 0, 1), (64, .getfield 146, 3), (67, .ireturn, 1), (68, .iconst 0, 1), (69, .istore_n 3, 1), (70, .iload_n 3, 1), (71, .aload_n 0, 1), (72, .getfield 140, 3), (75, .if_icmp .ge 27, 3), (102, .iload_n 2, 1), (103, .ireturn, 1), (104, .aload_n 0, 1), (105, .getfield 290, 3), (108, .ireturn, 1), (109, .aload_n 0, 1), (110, .getfield 334, 3), (113, .ireturn, 1), (114, .iconst (-1), 1), (115, .ireturn, 1)] : List (Nat × Instr × Nat)).all (fun x => decide (decode cX12_count x.1 = .ok x.2)) = true := by decide +kernel
theorem dX12_count_0 : decode cX12_count 0 = .ok (.iconst 0, 1) := dq_at daX12_count_R109 (i := 0) rfl
theorem dX12_count_1 : decode cX12_count 1 = .ok (.istore_n 2, 1) := dq_at daX12_count_R109 (i := 1) rfl
theorem dX12_count_2 : decode cX12_count 2 = .ok (.iload_n 1, 1) := dq_at daX12_count_R109 (i := 2) rfl
theorem dX12_count_3 : decode cX12_count 3 = .ok (.tableswitch 111 0 7 #[45, 50, 55, 60, 65, 65, 101, 106], 45) := dq_at daX12_count_R109 (i := 3) rfl
theorem dX12_count_48 : decode cX12_count 48 = .ok (.aload_n 0, 1) := dq_at daX12_count_R109 (i := 4) rfl
theorem dX12_count_49 : decode cX12_count 49 = .ok (.getfield 133, 3) := dq_at daX12_count_R109 (i := 5) rfl
theorem dX12_count_52 : decode cX12_count 52 = .ok (.ireturn, 1) := dq_at daX12_count_R109 (i := 6) rfl
theorem dX12_count_53 : decode cX12_count 53 = .ok (.aload_n 0, 1) := dq_at daX12_count_R109 (i := 7) rfl
theorem dX12_count_54 : decode cX12_count 54 = .ok (.getfield 140, 3) := dq_at daX12_count_R109 (i := 8) rfl
theorem dX12_count_57 : decode cX12_count 57 = .ok (.ireturn, 1) := dq_at daX12_count_R109 (i := 9) rfl
theorem dX12_count_58 : decode cX12_count 58 = .ok (.aload_n 0, 1) := dq_at daX12_count_R109 (i := 10) rfl
theorem dX12_count_59 : decode cX12_count 59 = .ok (.getfield 143, 3) := dq_at daX12_count_R109 (i := 11) rfl
theorem dX12_count_62 : decode cX12_count 62 = .ok (.ireturn, 1) := dq_at daX12_count_R109 (i := 12) rfl
theorem dX12_count_63 : decode cX12_count 63 = .ok (.aload_n 0, 1) := dq_at daX12_count_R109 (i := 13) rfl
theorem dX12_count_64 : decode cX12_count 64 = .ok (.getfield 146, 3) := dq_at daX12_count_R109 (i := 14) rfl
theorem dX12_count_67 : decode cX12_count 67 = .ok (.ireturn, 1) := dq_at daX12_count_R109 (i := 15) rfl
theorem dX12_count_68 : decode cX12_count 68 = .ok (.iconst 0, 1) := dq_at daX12_count_R109 (i := 16) rfl
theorem dX12_count_69 : decode cX12_count 69 = .ok (.istore_n 3, 1) := dq_at daX12_count_R109 (i := 17) rfl
theorem dX12_count_70 : decode cX12_count 70 = .ok (.iload_n 3, 1) := dq_at daX12_count_R109 (i := 18) rfl
theorem dX12_count_71 : decode cX12_count 71 = .ok (.aload_n 0, 1) := dq_at daX12_count_R109 (i := 19) rfl
theorem dX12_count_72 : decode cX12_count 72 = .ok (.getfield 140, 3) := dq_at daX12_count_R109 (i := 20) rfl
theorem dX12_count_75 : decode cX12_count 75 = .ok (.if_icmp .ge 27, 3) := dq_at daX12_count_R109 (i := 21) rfl
theorem dX12_count_102 : decode cX12_count 102 = .ok (.iload_n 2, 1) := dq_at daX12_count_R109 (i := 22) rfl
theorem dX12_count_103 : decode cX12_count 103 = .ok (.ireturn, 1) := dq_at daX12_count_R109 (i := 23) rfl
theorem dX12_count_104 : decode cX12_count 104 = .ok (.aload_n 0, 1) := dq_at daX12_count_R109 (i := 24) rfl
theorem dX12_count_105 : decode cX12_count 105 = .ok (.getfield 290, 3) := dq_at daX12_count_R109 (i := 25) rfl
theorem dX12_count_108 : decode cX12_count 108 = .ok (.ireturn, 1) := dq_at daX12_count_R109 (i := 26) rfl
theorem dX12_count_109 : decode cX12_count 109 = .ok (.aload_n 0, 1) := dq_at daX12_count_R109 (i := 27) rfl
theorem dX12_count_110 : decode cX12_count 110 = .ok (.getfield 334, 3) := dq_at daX12_count_R109 (i := 28) rfl
theorem dX12_count_113 : decode cX12_count 113 = .ok (.ireturn, 1) := dq_at daX12_count_R109 (i := 29) rfl
theorem dX12_count_114 : decode cX12_count 114 = .ok (.iconst (-1), 1) := dq_at daX12_count_R109 (i := 30) rfl
theorem dX12_count_115 : decode cX12_count 115 = .ok (.ireturn, 1) := dq_at daX12_count_R109 (i := 31) rfl
theorem daJ7_fill_d0a16_R110 : ([(0, .iconst 0, 1), (1, .istore_n 3, 1), (2, .aload_n 0, 1), (3, .arraylength, 1), (4, .istore 4, 2), (6, .iload_n 3, 1), (7, .iload 4, 2), (9, .if_icmp .ge 13, 3), (12, .aload_n 0, 1), (13, .iload_n 3, 1), (14, .lload_n 1, 1), (15, .lastore, 1), (16, .iinc 3 1, 3), (19, .goto (-13), 3), (22, .return_, 1)] : List (Nat × Instr × Nat)).all (fun x => decide (decode cJ7_fill_d0a16 x.1 = .ok x.2)) = true := by decide +kernel
theorem dJ7_fill_d0a16_0 : decode cJ7_fill_d0a16 0 = .ok (.iconst 0, 1) := dq_at daJ7_fill_d0a16_R110 (i := 0) rfl
theorem dJ7_fill_d0a16_1 : decode cJ7_fill_d0a16 1 = .ok (.istore_n 3, 1) := dq_at daJ7_fill_d0a16_R110 (i := 1) rfl
theorem dJ7_fill_d0a16_2 : decode cJ7_fill_d0a16 2 = .ok (.aload_n 0, 1) := dq_at daJ7_fill_d0a16_R110 (i := 2) rfl
theorem dJ7_fill_d0a16_3 : decode cJ7_fill_d0a16 3 = .ok (.arraylength, 1) := dq_at daJ7_fill_d0a16_R110 (i := 3) rfl
theorem dJ7_fill_d0a16_4 : decode cJ7_fill_d0a16 4 = .ok (.istore 4, 2) := dq_at daJ7_fill_d0a16_R110 (i := 4) rfl
theorem dJ7_fill_d0a16_6 : decode cJ7_fill_d0a16 6 = .ok (.iload_n 3, 1) := dq_at daJ7_fill_d0a16_R110 (i := 5) rfl
theorem dJ7_fill_d0a16_7 : decode cJ7_fill_d0a16 7 = .ok (.iload 4, 2) := dq_at daJ7_fill_d0a16_R110 (i := 6) rfl
theorem dJ7_fill_d0a16_9 : decode cJ7_fill_d0a16 9 = .ok (.if_icmp .ge 13, 3) := dq_at daJ7_fill_d0a16_R110 (i := 7) rfl
theorem dJ7_fill_d0a16_12 : decode cJ7_fill_d0a16 12 = .ok (.aload_n 0, 1) := dq_at daJ7_fill_d0a16_R110 (i := 8) rfl
theorem dJ7_fill_d0a16_13 : decode cJ7_fill_d0a16 13 = .ok (.iload_n 3, 1) := dq_at daJ7_fill_d0a16_R110 (i := 9) rfl
theorem dJ7_fill_d0a16_14 : decode cJ7_fill_d0a16 14 = .ok (.lload_n 1, 1) := dq_at daJ7_fill_d0a16_R110 (i := 10) rfl
theorem dJ7_fill_d0a16_15 : decode cJ7_fill_d0a16 15 = .ok (.lastore, 1) := dq_at daJ7_fill_d0a16_R110 (i := 11) rfl
theorem dJ7_fill_d0a16_16 : decode cJ7_fill_d0a16 16 = .ok (.iinc 3 1, 3) := dq_at daJ7_fill_d0a16_R110 (i := 12) rfl
theorem dJ7_fill_d0a16_19 : decode cJ7_fill_d0a16 19 = .ok (.goto (-13), 3) := dq_at daJ7_fill_d0a16_R110 (i := 13) rfl
theorem dJ7_fill_d0a16_22 : decode cJ7_fill_d0a16 22 = .ok (.return_, 1) := dq_at daJ7_fill_d0a16_R110 (i := 14) rfl
theorem daJ7_fill_53178_R111 : ([(0, .iconst 0, 1), (1, .istore_n 2, 1), (2, .aload_n 0, 1), (3, .arraylength, 1), (4, .istore_n 3, 1), (5, .iload_n 2, 1), (6, .iload_n 3, 1), (7, .if_icmp .ge 13, 3), (10, .aload_n 0, 1), (11, .iload_n 2, 1), (12, .iload_n 1, 1), (13, .iastore, 1), (14, .iinc 2 1, 3), (17, .goto (-12), 3), (20, .return_, 1)] : List (Nat × Instr × Nat)).all (fun x => decide (decode cJ7_fill_53178 x.1 = .ok x.2)) = true := by decide +kernel
theorem dJ7_fill_53178_0 : decode cJ7_fill_53178 0 = .ok (.iconst 0, 1) := dq_at daJ7_fill_53178_R111 (i := 0) rfl
theorem dJ7_fill_53178_1 : decode cJ7_fill_53178 1 = .ok (.istore_n 2, 1) := dq_at daJ7_fill_53178_R111 (i := 1) rfl
theorem dJ7_fill_53178_2 : decode cJ7_fill_53178 2 = .ok (.aload_n 0, 1) := dq_at daJ7_fill_53178_R111 (i := 2) rfl
theorem dJ7_fill_53178_3 : decode cJ7_fill_53178 3 = .ok (.arraylength, 1) := dq_at daJ7_fill_53178_R111 (i := 3) rfl
theorem dJ7_fill_53178_4 : decode cJ7_fill_53178 4 = .ok (.istore_n 3, 1) := dq_at daJ7_fill_53178_R111 (i := 4) rfl
theorem dJ7_fill_53178_5 : decode cJ7_fill_53178 5 = .ok (.iload_n 2, 1) := dq_at daJ7_fill_53178_R111 (i := 5) rfl
theorem dJ7_fill_53178_6 : decode cJ7_fill_53178 6 = .ok (.iload_n 3, 1) := dq_at daJ7_fill_53178_R111 (i := 6) rfl
theorem dJ7_fill_53178_7 : decode cJ7_fill_53178 7 = .ok (.if_icmp .ge 13, 3) := dq_at daJ7_fill_53178_R111 (i := 7) rfl
theorem dJ7_fill_53178_10 : decode cJ7_fill_53178 10 = .ok (.aload_n 0, 1) := dq_at daJ7_fill_53178_R111 (i := 8) rfl
theorem dJ7_fill_53178_11 : decode cJ7_fill_53178 11 = .ok (.iload_n 2, 1) := dq_at daJ7_fill_53178_R111 (i := 9) rfl
theorem dJ7_fill_53178_12 : decode cJ7_fill_53178 12 = .ok (.iload_n 1, 1) := dq_at daJ7_fill_53178_R111 (i := 10) rfl
theorem dJ7_fill_53178_13 : decode cJ7_fill_53178 13 = .ok (.iastore, 1) := dq_at daJ7_fill_53178_R111 (i := 11) rfl
theorem dJ7_fill_53178_14 : decode cJ7_fill_53178 14 = .ok (.iinc 2 1, 3) := dq_at daJ7_fill_53178_R111 (i := 12) rfl
theorem dJ7_fill_53178_17 : decode cJ7_fill_53178 17 = .ok (.goto (-12), 3) := dq_at daJ7_fill_53178_R111 (i := 13) rfl
theorem dJ7_fill_53178_20 : decode cJ7_fill_53178 20 = .ok (.return_, 1) := dq_at daJ7_fill_53178_R111 (i := 14) rfl
abbrev vwCl : List vw_C := [(RX0, TX0, 5), (RX1, TX1, 9), (RX2, TX2, 6), (RX3, TX3, 8), (RX4, TX4, 4), (RX5, TX5, 10), (RX6, TX6, 12), (RX7, TX7, 4), (RX8, TX8, 13), (RX9, TX9, 2), (RX10, TX10, 5), (RX11, TX11, 13), (RX12, TX12, 59)]


