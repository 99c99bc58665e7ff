section
theorem dX0_run_0 : decode cX0_run 0 = .ok (.aload_n 0, 1) := by decide +kernel
theorem dX0_run_1 : decode cX0_run 1 = .ok (.iload_n 1, 1) := by decide +kernel
theorem dX0_run_2 : decode cX0_run 2 = .ok (.putfield 22, 3) := by decide +kernel
theorem dX0_run_5 : decode cX0_run 5 = .ok (.aload_n 0, 1) := by decide +kernel
theorem dX0_run_6 : decode cX0_run 6 = .ok (.iload_n 2, 1) := by decide +kernel
theorem dX0_run_7 : decode cX0_run 7 = .ok (.putfield 25, 3) := by decide +kernel
theorem dX0_run_10 : decode cX0_run 10 = .ok (.aload_n 0, 1) := by decide +kernel
theorem dX0_run_11 : decode cX0_run 11 = .ok (.iload_n 3, 1) := by decide +kernel
theorem dX0_run_12 : decode cX0_run 12 = .ok (.putfield 19, 3) := by decide +kernel
theorem dX0_run_15 : decode cX0_run 15 = .ok (.iload 4, 2) := by decide +kernel
theorem dX0_run_17 : decode cX0_run 17 = .ok (.tableswitch 75 0 3 #[31, 42, 53, 64], 31) := by decide +kernel
theorem dX0_run_48 : decode cX0_run 48 = .ok (.aload_n 0, 1) := by decide +kernel
theorem dX0_run_49 : decode cX0_run 49 = .ok (.aload_n 0, 1) := by decide +kernel
theorem dX0_run_50 : decode cX0_run 50 = .ok (.getfield 19, 3) := by decide +kernel
theorem dX0_run_53 : decode cX0_run 53 = .ok (.iload 5, 2) := by decide +kernel
theorem dX0_run_55 : decode cX0_run 55 = .ok (.invokevirtual 28, 3) := by decide +kernel
theorem dX0_run_58 : decode cX0_run 58 = .ok (.ireturn, 1) := by decide +kernel
theorem dX0_run_59 : decode cX0_run 59 = .ok (.aload_n 0, 1) := by decide +kernel
theorem dX0_run_60 : decode cX0_run 60 = .ok (.aload_n 0, 1) := by decide +kernel
theorem dX0_run_61 : decode cX0_run 61 = .ok (.getfield 19, 3) := by decide +kernel
theorem dX0_run_64 : decode cX0_run 64 = .ok (.iload 5, 2) := by decide +kernel
theorem dX0_run_66 : decode cX0_run 66 = .ok (.invokevirtual 32, 3) := by decide +kernel
theorem dX0_run_69 : decode cX0_run 69 = .ok (.ireturn, 1) := by decide +kernel
theorem dX0_run_70 : decode cX0_run 70 = .ok (.aload_n 0, 1) := by decide +kernel
theorem dX0_run_71 : decode cX0_run 71 = .ok (.aload_n 0, 1) := by decide +kernel
theorem dX0_run_72 : decode cX0_run 72 = .ok (.getfield 19, 3) := by decide +kernel
theorem dX0_run_75 : decode cX0_run 75 = .ok (.iload 5, 2) := by decide +kernel
theorem dX0_run_77 : decode cX0_run 77 = .ok (.invokevirtual 35, 3) := by decide +kernel
theorem dX0_run_80 : decode cX0_run 80 = .ok (.ireturn, 1) := by decide +kernel
theorem dX0_run_81 : decode cX0_run 81 = .ok (.aload_n 0, 1) := by decide +kernel
theorem dX0_run_82 : decode cX0_run 82 = .ok (.aload_n 0, 1) := by decide +kernel
theorem dX0_run_83 : decode cX0_run 83 = .ok (.getfield 19, 3) := by decide +kernel
theorem dX0_run_86 : decode cX0_run 86 = .ok (.iload 5, 2) := by decide +kernel
theorem dX0_run_88 : decode cX0_run 88 = .ok (.invokevirtual 38, 3) := by decide +kernel
theorem dX0_run_91 : decode cX0_run 91 = .ok (.ireturn, 1) := by decide +kernel
theorem dX0_run_92 : decode cX0_run 92 = .ok (.iconst 0, 1) := by decide +kernel
theorem dX0_run_93 : decode cX0_run 93 = .ok (.ireturn, 1) := by decide +kernel
theorem dX0_begin_0 : decode cX0_begin 0 = .ok (.aload_n 0, 1) := by decide +kernel
theorem dX0_begin_1 : decode cX0_begin 1 = .ok (.getfield 15, 3) := by decide +kernel
theorem dX0_begin_4 : decode cX0_begin 4 = .ok (.bipush 24, 2) := by decide +kernel
theorem dX0_begin_6 : decode cX0_begin 6 = .ok (.if_icmp .ge 13, 3) := by decide +kernel
theorem dX0_begin_9 : decode cX0_begin 9 = .ok (.aload_n 0, 1) := by decide +kernel
theorem dX0_begin_10 : decode cX0_begin 10 = .ok (.getfield 9, 3) := by decide +kernel
theorem dX0_begin_13 : decode cX0_begin 13 = .ok (.aload_n 0, 1) := by decide +kernel
theorem dX0_begin_14 : decode cX0_begin 14 = .ok (.getfield 15, 3) := by decide +kernel
theorem dX0_begin_17 : decode cX0_begin 17 = .ok (.iload_n 1, 1) := by decide +kernel
theorem dX0_begin_18 : decode cX0_begin 18 = .ok (.iastore, 1) := by decide +kernel
theorem dX0_begin_19 : decode cX0_begin 19 = .ok (.aload_n 0, 1) := by decide +kernel
theorem dX0_begin_20 : decode cX0_begin 20 = .ok (.dup, 1) := by decide +kernel
theorem dX0_begin_21 : decode cX0_begin 21 = .ok (.getfield 15, 3) := by decide +kernel
theorem dX0_begin_24 : decode cX0_begin 24 = .ok (.iconst 1, 1) := by decide +kernel
theorem dX0_begin_25 : decode cX0_begin 25 = .ok (.iadd, 1) := by decide +kernel
theorem dX0_begin_26 : decode cX0_begin 26 = .ok (.putfield 15, 3) := by decide +kernel
theorem dX0_begin_29 : decode cX0_begin 29 = .ok (.return_, 1) := by decide +kernel
theorem dX0_findsFrom_0 : decode cX0_findsFrom 0 = .ok (.iload_n 1, 1) := by decide +kernel
theorem dX0_findsFrom_1 : decode cX0_findsFrom 1 = .ok (.lookupswitch 83 #[(1, 50), (5, 68), (6, 35)], 35) := by decide +kernel
theorem dX0_findsFrom_36 : decode cX0_findsFrom 36 = .ok (.aload_n 0, 1) := by decide +kernel
theorem dX0_findsFrom_37 : decode cX0_findsFrom 37 = .ok (.bipush 71, 2) := by decide +kernel
theorem dX0_findsFrom_39 : decode cX0_findsFrom 39 = .ok (.invokevirtual 41, 3) := by decide +kernel
theorem dX0_findsFrom_42 : decode cX0_findsFrom 42 = .ok (.aload_n 0, 1) := by decide +kernel
theorem dX0_findsFrom_43 : decode cX0_findsFrom 43 = .ok (.iconst 1, 1) := by decide +kernel
theorem dX0_findsFrom_44 : decode cX0_findsFrom 44 = .ok (.iload_n 2, 1) := by decide +kernel
theorem dX0_findsFrom_45 : decode cX0_findsFrom 45 = .ok (.invokevirtual 28, 3) := by decide +kernel
theorem dX0_findsFrom_48 : decode cX0_findsFrom 48 = .ok (.iconst 2, 1) := by decide +kernel
theorem dX0_findsFrom_49 : decode cX0_findsFrom 49 = .ok (.imul, 1) := by decide +kernel
theorem dX0_findsFrom_50 : decode cX0_findsFrom 50 = .ok (.ireturn, 1) := by decide +kernel
theorem dX0_findsFrom_51 : decode cX0_findsFrom 51 = .ok (.aload_n 0, 1) := by decide +kernel
theorem dX0_findsFrom_52 : decode cX0_findsFrom 52 = .ok (.bipush 20, 2) := by decide +kernel
theorem dX0_findsFrom_54 : decode cX0_findsFrom 54 = .ok (.invokevirtual 41, 3) := by decide +kernel
theorem dX0_findsFrom_57 : decode cX0_findsFrom 57 = .ok (.aload_n 0, 1) := by decide +kernel
theorem dX0_findsFrom_58 : decode cX0_findsFrom 58 = .ok (.iconst 0, 1) := by decide +kernel
theorem dX0_findsFrom_59 : decode cX0_findsFrom 59 = .ok (.iload_n 2, 1) := by decide +kernel
theorem dX0_findsFrom_60 : decode cX0_findsFrom 60 = .ok (.invokevirtual 28, 3) := by decide +kernel
theorem dX0_findsFrom_63 : decode cX0_findsFrom 63 = .ok (.aload_n 0, 1) := by decide +kernel
theorem dX0_findsFrom_64 : decode cX0_findsFrom 64 = .ok (.getfield 25, 3) := by decide +kernel
theorem dX0_findsFrom_67 : decode cX0_findsFrom 67 = .ok (.iadd, 1) := by decide +kernel
theorem dX0_findsFrom_68 : decode cX0_findsFrom 68 = .ok (.ireturn, 1) := by decide +kernel
theorem dX0_findsFrom_69 : decode cX0_findsFrom 69 = .ok (.aload_n 0, 1) := by decide +kernel
theorem dX0_findsFrom_70 : decode cX0_findsFrom 70 = .ok (.bipush 60, 2) := by decide +kernel
theorem dX0_findsFrom_72 : decode cX0_findsFrom 72 = .ok (.invokevirtual 41, 3) := by decide +kernel
theorem dX0_findsFrom_75 : decode cX0_findsFrom 75 = .ok (.aload_n 0, 1) := by decide +kernel
theorem dX0_findsFrom_76 : decode cX0_findsFrom 76 = .ok (.iconst 0, 1) := by decide +kernel
theorem dX0_findsFrom_77 : decode cX0_findsFrom 77 = .ok (.iload_n 2, 1) := by decide +kernel
theorem dX0_findsFrom_78 : decode cX0_findsFrom 78 = .ok (.iconst 1, 1) := by decide +kernel
theorem dX0_findsFrom_79 : decode cX0_findsFrom 79 = .ok (.iadd, 1) := by decide +kernel
theorem dX0_findsFrom_80 : decode cX0_findsFrom 80 = .ok (.invokevirtual 28, 3) := by decide +kernel
theorem dX0_findsFrom_83 : decode cX0_findsFrom 83 = .ok (.ireturn, 1) := by decide +kernel
theorem dX0_findsFrom_84 : decode cX0_findsFrom 84 = .ok (.aload_n 0, 1) := by decide +kernel
theorem dX0_findsFrom_85 : decode cX0_findsFrom 85 = .ok (.iconst 1, 1) := by decide +kernel
theorem dX0_findsFrom_86 : decode cX0_findsFrom 86 = .ok (.invokevirtual 41, 3) := by decide +kernel
theorem dX0_findsFrom_89 : decode cX0_findsFrom 89 = .ok (.iload_n 2, 1) := by decide +kernel
theorem dX0_findsFrom_90 : decode cX0_findsFrom 90 = .ok (.aload_n 0, 1) := by decide +kernel
theorem dX0_findsFrom_91 : decode cX0_findsFrom 91 = .ok (.getfield 22, 3) := by decide +kernel
theorem dX0_findsFrom_94 : decode cX0_findsFrom 94 = .ok (.iadd, 1) := by decide +kernel
theorem dX0_findsFrom_95 : decode cX0_findsFrom 95 = .ok (.ireturn, 1) := by decide +kernel
theorem dX0_keepsFrom_0 : decode cX0_keepsFrom 0 = .ok (.iload_n 1, 1) := by decide +kernel
theorem dX0_keepsFrom_1 : decode cX0_keepsFrom 1 = .ok (.lookupswitch 63 #[(3, 49), (6, 27)], 27) := by decide +kernel
theorem dX0_keepsFrom_28 : decode cX0_keepsFrom 28 = .ok (.aload_n 0, 1) := by decide +kernel
theorem dX0_keepsFrom_29 : decode cX0_keepsFrom 29 = .ok (.bipush 70, 2) := by decide +kernel
theorem dX0_keepsFrom_31 : decode cX0_keepsFrom 31 = .ok (.invokevirtual 41, 3) := by decide +kernel
theorem dX0_keepsFrom_34 : decode cX0_keepsFrom 34 = .ok (.aload_n 0, 1) := by decide +kernel
theorem dX0_keepsFrom_35 : decode cX0_keepsFrom 35 = .ok (.iconst 1, 1) := by decide +kernel
theorem dX0_keepsFrom_36 : decode cX0_keepsFrom 36 = .ok (.iload_n 2, 1) := by decide +kernel
theorem dX0_keepsFrom_37 : decode cX0_keepsFrom 37 = .ok (.invokevirtual 32, 3) := by decide +kernel
theorem dX0_keepsFrom_40 : decode cX0_keepsFrom 40 = .ok (.istore_n 3, 1) := by decide +kernel
theorem dX0_keepsFrom_41 : decode cX0_keepsFrom 41 = .ok (.iload_n 3, 1) := by decide +kernel
theorem dX0_keepsFrom_42 : decode cX0_keepsFrom 42 = .ok (.aload_n 0, 1) := by decide +kernel
theorem dX0_keepsFrom_43 : decode cX0_keepsFrom 43 = .ok (.iconst 1, 1) := by decide +kernel
theorem dX0_keepsFrom_44 : decode cX0_keepsFrom 44 = .ok (.iload_n 2, 1) := by decide +kernel
theorem dX0_keepsFrom_45 : decode cX0_keepsFrom 45 = .ok (.invokevirtual 35, 3) := by decide +kernel
theorem dX0_keepsFrom_48 : decode cX0_keepsFrom 48 = .ok (.iadd, 1) := by decide +kernel
theorem dX0_keepsFrom_49 : decode cX0_keepsFrom 49 = .ok (.ireturn, 1) := by decide +kernel
theorem dX0_keepsFrom_50 : decode cX0_keepsFrom 50 = .ok (.aload_n 0, 1) := by decide +kernel
theorem dX0_keepsFrom_51 : decode cX0_keepsFrom 51 = .ok (.bipush 40, 2) := by decide +kernel
theorem dX0_keepsFrom_53 : decode cX0_keepsFrom 53 = .ok (.invokevirtual 41, 3) := by decide +kernel
theorem dX0_keepsFrom_56 : decode cX0_keepsFrom 56 = .ok (.aload_n 0, 1) := by decide +kernel
theorem dX0_keepsFrom_57 : decode cX0_keepsFrom 57 = .ok (.iconst 0, 1) := by decide +kernel
theorem dX0_keepsFrom_58 : decode cX0_keepsFrom 58 = .ok (.iload_n 2, 1) := by decide +kernel
theorem dX0_keepsFrom_59 : decode cX0_keepsFrom 59 = .ok (.invokevirtual 32, 3) := by decide +kernel
theorem dX0_keepsFrom_62 : decode cX0_keepsFrom 62 = .ok (.ineg, 1) := by decide +kernel
theorem dX0_keepsFrom_63 : decode cX0_keepsFrom 63 = .ok (.ireturn, 1) := by decide +kernel
theorem dX0_keepsFrom_64 : decode cX0_keepsFrom 64 = .ok (.aload_n 0, 1) := by decide +kernel
theorem dX0_keepsFrom_65 : decode cX0_keepsFrom 65 = .ok (.bipush 10, 2) := by decide +kernel
theorem dX0_keepsFrom_67 : decode cX0_keepsFrom 67 = .ok (.invokevirtual 41, 3) := by decide +kernel
theorem dX0_keepsFrom_70 : decode cX0_keepsFrom 70 = .ok (.aload_n 0, 1) := by decide +kernel
theorem dX0_keepsFrom_71 : decode cX0_keepsFrom 71 = .ok (.aload_n 0, 1) := by decide +kernel
theorem dX0_keepsFrom_72 : decode cX0_keepsFrom 72 = .ok (.getfield 19, 3) := by decide +kernel
theorem dX0_keepsFrom_75 : decode cX0_keepsFrom 75 = .ok (.iload_n 2, 1) := by decide +kernel
theorem dX0_keepsFrom_76 : decode cX0_keepsFrom 76 = .ok (.invokevirtual 28, 3) := by decide +kernel
theorem dX0_keepsFrom_79 : decode cX0_keepsFrom 79 = .ok (.iconst 2, 1) := by decide +kernel
theorem dX0_keepsFrom_80 : decode cX0_keepsFrom 80 = .ok (.imul, 1) := by decide +kernel
theorem dX0_keepsFrom_81 : decode cX0_keepsFrom 81 = .ok (.ireturn, 1) := by decide +kernel
theorem dX0_movesFrom_0 : decode cX0_movesFrom 0 = .ok (.iload_n 1, 1) := by decide +kernel
theorem dX0_movesFrom_1 : decode cX0_movesFrom 1 = .ok (.lookupswitch 67 #[(2, 27), (5, 42)], 27) := by decide +kernel
theorem dX0_movesFrom_28 : decode cX0_movesFrom 28 = .ok (.aload_n 0, 1) := by decide +kernel
theorem dX0_movesFrom_29 : decode cX0_movesFrom 29 = .ok (.bipush 30, 2) := by decide +kernel
theorem dX0_movesFrom_31 : decode cX0_movesFrom 31 = .ok (.invokevirtual 41, 3) := by decide +kernel
theorem dX0_movesFrom_34 : decode cX0_movesFrom 34 = .ok (.aload_n 0, 1) := by decide +kernel
theorem dX0_movesFrom_35 : decode cX0_movesFrom 35 = .ok (.iconst 0, 1) := by decide +kernel
theorem dX0_movesFrom_36 : decode cX0_movesFrom 36 = .ok (.iload_n 2, 1) := by decide +kernel
theorem dX0_movesFrom_37 : decode cX0_movesFrom 37 = .ok (.invokevirtual 35, 3) := by decide +kernel
theorem dX0_movesFrom_40 : decode cX0_movesFrom 40 = .ok (.iconst 3, 1) := by decide +kernel
theorem dX0_movesFrom_41 : decode cX0_movesFrom 41 = .ok (.imul, 1) := by decide +kernel
theorem dX0_movesFrom_42 : decode cX0_movesFrom 42 = .ok (.ireturn, 1) := by decide +kernel
theorem dX0_movesFrom_43 : decode cX0_movesFrom 43 = .ok (.aload_n 0, 1) := by decide +kernel
theorem dX0_movesFrom_44 : decode cX0_movesFrom 44 = .ok (.bipush 61, 2) := by decide +kernel
theorem dX0_movesFrom_46 : decode cX0_movesFrom 46 = .ok (.invokevirtual 41, 3) := by decide +kernel
theorem dX0_movesFrom_49 : decode cX0_movesFrom 49 = .ok (.aload_n 0, 1) := by decide +kernel
theorem dX0_movesFrom_50 : decode cX0_movesFrom 50 = .ok (.iconst 0, 1) := by decide +kernel
theorem dX0_movesFrom_51 : decode cX0_movesFrom 51 = .ok (.iload_n 2, 1) := by decide +kernel
theorem dX0_movesFrom_52 : decode cX0_movesFrom 52 = .ok (.invokevirtual 35, 3) := by decide +kernel
theorem dX0_movesFrom_55 : decode cX0_movesFrom 55 = .ok (.istore_n 3, 1) := by decide +kernel
theorem dX0_movesFrom_56 : decode cX0_movesFrom 56 = .ok (.iload_n 3, 1) := by decide +kernel
theorem dX0_movesFrom_57 : decode cX0_movesFrom 57 = .ok (.aload_n 0, 1) := by decide +kernel
theorem dX0_movesFrom_58 : decode cX0_movesFrom 58 = .ok (.aload_n 0, 1) := by decide +kernel
theorem dX0_movesFrom_59 : decode cX0_movesFrom 59 = .ok (.getfield 19, 3) := by decide +kernel
theorem dX0_movesFrom_62 : decode cX0_movesFrom 62 = .ok (.iconst 2, 1) := by decide +kernel
theorem dX0_movesFrom_63 : decode cX0_movesFrom 63 = .ok (.invokevirtual 28, 3) := by decide +kernel
theorem dX0_movesFrom_66 : decode cX0_movesFrom 66 = .ok (.isub, 1) := by decide +kernel
theorem dX0_movesFrom_67 : decode cX0_movesFrom 67 = .ok (.ireturn, 1) := by decide +kernel
theorem dX0_movesFrom_68 : decode cX0_movesFrom 68 = .ok (.aload_n 0, 1) := by decide +kernel
theorem dX0_movesFrom_69 : decode cX0_movesFrom 69 = .ok (.bipush 11, 2) := by decide +kernel
theorem dX0_movesFrom_71 : decode cX0_movesFrom 71 = .ok (.invokevirtual 41, 3) := by decide +kernel
theorem dX0_movesFrom_74 : decode cX0_movesFrom 74 = .ok (.iload_n 2, 1) := by decide +kernel
theorem dX0_movesFrom_75 : decode cX0_movesFrom 75 = .ok (.aload_n 0, 1) := by decide +kernel
theorem dX0_movesFrom_76 : decode cX0_movesFrom 76 = .ok (.getfield 22, 3) := by decide +kernel
theorem dX0_movesFrom_79 : decode cX0_movesFrom 79 = .ok (.ixor, 1) := by decide +kernel
theorem dX0_movesFrom_80 : decode cX0_movesFrom 80 = .ok (.ireturn, 1) := by decide +kernel
theorem dX0_tellsFrom_0 : decode cX0_tellsFrom 0 = .ok (.iload_n 1, 1) := by decide +kernel
theorem dX0_tellsFrom_1 : decode cX0_tellsFrom 1 = .ok (.iconst 4, 1) := by decide +kernel
theorem dX0_tellsFrom_2 : decode cX0_tellsFrom 2 = .ok (.if_icmp .ne 19, 3) := by decide +kernel
theorem dX0_tellsFrom_5 : decode cX0_tellsFrom 5 = .ok (.aload_n 0, 1) := by decide +kernel
theorem dX0_tellsFrom_6 : decode cX0_tellsFrom 6 = .ok (.bipush 50, 2) := by decide +kernel
theorem dX0_tellsFrom_8 : decode cX0_tellsFrom 8 = .ok (.invokevirtual 41, 3) := by decide +kernel
theorem dX0_tellsFrom_11 : decode cX0_tellsFrom 11 = .ok (.aload_n 0, 1) := by decide +kernel
theorem dX0_tellsFrom_12 : decode cX0_tellsFrom 12 = .ok (.iconst 0, 1) := by decide +kernel
theorem dX0_tellsFrom_13 : decode cX0_tellsFrom 13 = .ok (.iload_n 2, 1) := by decide +kernel
theorem dX0_tellsFrom_14 : decode cX0_tellsFrom 14 = .ok (.invokevirtual 38, 3) := by decide +kernel
theorem dX0_tellsFrom_17 : decode cX0_tellsFrom 17 = .ok (.bipush 9, 2) := by decide +kernel
theorem dX0_tellsFrom_19 : decode cX0_tellsFrom 19 = .ok (.ixor, 1) := by decide +kernel
theorem dX0_tellsFrom_20 : decode cX0_tellsFrom 20 = .ok (.ireturn, 1) := by decide +kernel
theorem dX0_tellsFrom_21 : decode cX0_tellsFrom 21 = .ok (.aload_n 0, 1) := by decide +kernel
theorem dX0_tellsFrom_22 : decode cX0_tellsFrom 22 = .ok (.iconst 2, 1) := by decide +kernel
theorem dX0_tellsFrom_23 : decode cX0_tellsFrom 23 = .ok (.invokevirtual 41, 3) := by decide +kernel
theorem dX0_tellsFrom_26 : decode cX0_tellsFrom 26 = .ok (.aload_n 0, 1) := by decide +kernel
theorem dX0_tellsFrom_27 : decode cX0_tellsFrom 27 = .ok (.aload_n 0, 1) := by decide +kernel
theorem dX0_tellsFrom_28 : decode cX0_tellsFrom 28 = .ok (.getfield 19, 3) := by decide +kernel
theorem dX0_tellsFrom_31 : decode cX0_tellsFrom 31 = .ok (.iload_n 2, 1) := by decide +kernel
theorem dX0_tellsFrom_32 : decode cX0_tellsFrom 32 = .ok (.invokevirtual 32, 3) := by decide +kernel
theorem dX0_tellsFrom_35 : decode cX0_tellsFrom 35 = .ok (.istore_n 3, 1) := by decide +kernel
theorem dX0_tellsFrom_36 : decode cX0_tellsFrom 36 = .ok (.iload_n 3, 1) := by decide +kernel
theorem dX0_tellsFrom_37 : decode cX0_tellsFrom 37 = .ok (.aload_n 0, 1) := by decide +kernel
theorem dX0_tellsFrom_38 : decode cX0_tellsFrom 38 = .ok (.aload_n 0, 1) := by decide +kernel
theorem dX0_tellsFrom_39 : decode cX0_tellsFrom 39 = .ok (.getfield 19, 3) := by decide +kernel
theorem dX0_tellsFrom_42 : decode cX0_tellsFrom 42 = .ok (.iconst 1, 1) := by decide +kernel
theorem dX0_tellsFrom_43 : decode cX0_tellsFrom 43 = .ok (.invokevirtual 35, 3) := by decide +kernel
theorem dX0_tellsFrom_46 : decode cX0_tellsFrom 46 = .ok (.isub, 1) := by decide +kernel
theorem dX0_tellsFrom_47 : decode cX0_tellsFrom 47 = .ok (.ireturn, 1) := by decide +kernel
theorem dX1_pick_0 : decode cX1_pick 0 = .ok (.aload_n 0, 1) := by decide +kernel
theorem dX1_pick_1 : decode cX1_pick 1 = .ok (.iconst 0, 1) := by decide +kernel
theorem dX1_pick_2 : decode cX1_pick 2 = .ok (.putfield 18, 3) := by decide +kernel
theorem dX1_pick_5 : decode cX1_pick 5 = .ok (.aload_n 0, 1) := by decide +kernel
theorem dX1_pick_6 : decode cX1_pick 6 = .ok (.iconst 0, 1) := by decide +kernel
theorem dX1_pick_7 : decode cX1_pick 7 = .ok (.putfield 31, 3) := by decide +kernel
theorem dX1_pick_10 : decode cX1_pick 10 = .ok (.aload_n 1, 1) := by decide +kernel
theorem dX1_pick_11 : decode cX1_pick 11 = .ok (.getfield 41, 3) := by decide +kernel
theorem dX1_pick_14 : decode cX1_pick 14 = .ok (.iconst 1, 1) := by decide +kernel
theorem dX1_pick_15 : decode cX1_pick 15 = .ok (.if_icmp .ne 12, 3) := by decide +kernel
theorem dX1_pick_18 : decode cX1_pick 18 = .ok (.aload_n 0, 1) := by decide +kernel
theorem dX1_pick_19 : decode cX1_pick 19 = .ok (.aload_n 1, 1) := by decide +kernel
theorem dX1_pick_20 : decode cX1_pick 20 = .ok (.iload_n 2, 1) := by decide +kernel
theorem dX1_pick_21 : decode cX1_pick 21 = .ok (.invokevirtual 46, 3) := by decide +kernel
theorem dX1_pick_24 : decode cX1_pick 24 = .ok (.goto 26, 3) := by decide +kernel
theorem dX1_pick_27 : decode cX1_pick 27 = .ok (.aload_n 1, 1) := by decide +kernel
theorem dX1_pick_28 : decode cX1_pick 28 = .ok (.getfield 41, 3) := by decide +kernel
theorem dX1_pick_31 : decode cX1_pick 31 = .ok (.iconst 2, 1) := by decide +kernel
theorem dX1_pick_32 : decode cX1_pick 32 = .ok (.if_icmp .ne 12, 3) := by decide +kernel
theorem dX1_pick_35 : decode cX1_pick 35 = .ok (.aload_n 0, 1) := by decide +kernel
theorem dX1_pick_36 : decode cX1_pick 36 = .ok (.aload_n 1, 1) := by decide +kernel
theorem dX1_pick_37 : decode cX1_pick 37 = .ok (.iload_n 2, 1) := by decide +kernel
theorem dX1_pick_38 : decode cX1_pick 38 = .ok (.invokevirtual 50, 3) := by decide +kernel
theorem dX1_pick_41 : decode cX1_pick 41 = .ok (.goto 9, 3) := by decide +kernel
theorem dX1_pick_44 : decode cX1_pick 44 = .ok (.aload_n 0, 1) := by decide +kernel
theorem dX1_pick_45 : decode cX1_pick 45 = .ok (.aload_n 1, 1) := by decide +kernel
theorem dX1_pick_46 : decode cX1_pick 46 = .ok (.iload_n 2, 1) := by decide +kernel
theorem dX1_pick_47 : decode cX1_pick 47 = .ok (.invokevirtual 53, 3) := by decide +kernel
theorem dX1_pick_50 : decode cX1_pick 50 = .ok (.return_, 1) := by decide +kernel
theorem dX1_pickRound_0 : decode cX1_pickRound 0 = .ok (.iload_n 2, 1) := by decide +kernel
theorem dX1_pickRound_1 : decode cX1_pickRound 1 = .ok (.istore_n 3, 1) := by decide +kernel
theorem dX1_pickRound_2 : decode cX1_pickRound 2 = .ok (.iconst 0, 1) := by decide +kernel
theorem dX1_pickRound_3 : decode cX1_pickRound 3 = .ok (.istore 4, 2) := by decide +kernel
theorem dX1_pickRound_5 : decode cX1_pickRound 5 = .ok (.iload 4, 2) := by decide +kernel
theorem dX1_pickRound_7 : decode cX1_pickRound 7 = .ok (.aload_n 1, 1) := by decide +kernel
theorem dX1_pickRound_8 : decode cX1_pickRound 8 = .ok (.getfield 56, 3) := by decide +kernel
theorem dX1_pickRound_11 : decode cX1_pickRound 11 = .ok (.if_icmp .ge 55, 3) := by decide +kernel
theorem dX1_pickRound_14 : decode cX1_pickRound 14 = .ok (.aload_n 0, 1) := by decide +kernel
theorem dX1_pickRound_15 : decode cX1_pickRound 15 = .ok (.getfield 31, 3) := by decide +kernel
theorem dX1_pickRound_18 : decode cX1_pickRound 18 = .ok (.aload_n 1, 1) := by decide +kernel
theorem dX1_pickRound_19 : decode cX1_pickRound 19 = .ok (.getfield 59, 3) := by decide +kernel
theorem dX1_pickRound_22 : decode cX1_pickRound 22 = .ok (.if_icmp .eq 44, 3) := by decide +kernel
theorem dX1_pickRound_25 : decode cX1_pickRound 25 = .ok (.aload_n 1, 1) := by decide +kernel
theorem dX1_pickRound_26 : decode cX1_pickRound 26 = .ok (.getfield 62, 3) := by decide +kernel
theorem dX1_pickRound_29 : decode cX1_pickRound 29 = .ok (.iload_n 3, 1) := by decide +kernel
theorem dX1_pickRound_30 : decode cX1_pickRound 30 = .ok (.saload, 1) := by decide +kernel
theorem dX1_pickRound_31 : decode cX1_pickRound 31 = .ok (.istore_n 3, 1) := by decide +kernel
theorem dX1_pickRound_32 : decode cX1_pickRound 32 = .ok (.aload_n 0, 1) := by decide +kernel
theorem dX1_pickRound_33 : decode cX1_pickRound 33 = .ok (.aload_n 1, 1) := by decide +kernel
theorem dX1_pickRound_34 : decode cX1_pickRound 34 = .ok (.getfield 66, 3) := by decide +kernel
theorem dX1_pickRound_37 : decode cX1_pickRound 37 = .ok (.iload_n 3, 1) := by decide +kernel
theorem dX1_pickRound_38 : decode cX1_pickRound 38 = .ok (.baload, 1) := by decide +kernel
theorem dX1_pickRound_39 : decode cX1_pickRound 39 = .ok (.invokevirtual 70, 3) := by decide +kernel
theorem dX1_pickRound_42 : decode cX1_pickRound 42 = .ok (.ifCond .ne 13, 3) := by decide +kernel
theorem dX1_pickRound_45 : decode cX1_pickRound 45 = .ok (.aload_n 0, 1) := by decide +kernel
theorem dX1_pickRound_46 : decode cX1_pickRound 46 = .ok (.aload_n 1, 1) := by decide +kernel
theorem dX1_pickRound_47 : decode cX1_pickRound 47 = .ok (.getfield 66, 3) := by decide +kernel
theorem dX1_pickRound_50 : decode cX1_pickRound 50 = .ok (.iload_n 3, 1) := by decide +kernel
theorem dX1_pickRound_51 : decode cX1_pickRound 51 = .ok (.baload, 1) := by decide +kernel
theorem dX1_pickRound_52 : decode cX1_pickRound 52 = .ok (.invokevirtual 74, 3) := by decide +kernel
theorem dX1_pickRound_55 : decode cX1_pickRound 55 = .ok (.iload_n 3, 1) := by decide +kernel
theorem dX1_pickRound_56 : decode cX1_pickRound 56 = .ok (.invokestatic 78, 3) := by decide +kernel
theorem dX1_pickRound_59 : decode cX1_pickRound 59 = .ok (.istore_n 3, 1) := by decide +kernel
theorem dX1_pickRound_60 : decode cX1_pickRound 60 = .ok (.iinc 4 1, 3) := by decide +kernel
theorem dX1_pickRound_63 : decode cX1_pickRound 63 = .ok (.goto (-58), 3) := by decide +kernel
theorem dX1_pickRound_66 : decode cX1_pickRound 66 = .ok (.return_, 1) := by decide +kernel
theorem dX1_pickByJumps_0 : decode cX1_pickByJumps 0 = .ok (.iconst 0, 1) := by decide +kernel
theorem dX1_pickByJumps_1 : decode cX1_pickByJumps 1 = .ok (.istore_n 3, 1) := by decide +kernel
theorem dX1_pickByJumps_2 : decode cX1_pickByJumps 2 = .ok (.iload_n 3, 1) := by decide +kernel
theorem dX1_pickByJumps_3 : decode cX1_pickByJumps 3 = .ok (.bipush 12, 2) := by decide +kernel
theorem dX1_pickByJumps_5 : decode cX1_pickByJumps 5 = .ok (.if_icmp .ge 36, 3) := by decide +kernel
theorem dX1_pickByJumps_8 : decode cX1_pickByJumps 8 = .ok (.aload_n 0, 1) := by decide +kernel
theorem dX1_pickByJumps_9 : decode cX1_pickByJumps 9 = .ok (.getfield 31, 3) := by decide +kernel
theorem dX1_pickByJumps_12 : decode cX1_pickByJumps 12 = .ok (.aload_n 1, 1) := by decide +kernel
theorem dX1_pickByJumps_13 : decode cX1_pickByJumps 13 = .ok (.getfield 59, 3) := by decide +kernel
theorem dX1_pickByJumps_16 : decode cX1_pickByJumps 16 = .ok (.if_icmp .eq 25, 3) := by decide +kernel
theorem dX1_pickByJumps_19 : decode cX1_pickByJumps 19 = .ok (.aload_n 0, 1) := by decide +kernel
theorem dX1_pickByJumps_20 : decode cX1_pickByJumps 20 = .ok (.aload_n 1, 1) := by decide +kernel
theorem dX1_pickByJumps_21 : decode cX1_pickByJumps 21 = .ok (.iload_n 2, 1) := by decide +kernel
theorem dX1_pickByJumps_22 : decode cX1_pickByJumps 22 = .ok (.sipush 333, 3) := by decide +kernel
theorem dX1_pickByJumps_25 : decode cX1_pickByJumps 25 = .ok (.iload_n 3, 1) := by decide +kernel
theorem dX1_pickByJumps_26 : decode cX1_pickByJumps 26 = .ok (.imul, 1) := by decide +kernel
theorem dX1_pickByJumps_27 : decode cX1_pickByJumps 27 = .ok (.iadd, 1) := by decide +kernel
theorem dX1_pickByJumps_28 : decode cX1_pickByJumps 28 = .ok (.sipush 1000, 3) := by decide +kernel
theorem dX1_pickByJumps_31 : decode cX1_pickByJumps 31 = .ok (.irem, 1) := by decide +kernel
theorem dX1_pickByJumps_32 : decode cX1_pickByJumps 32 = .ok (.invokevirtual 82, 3) := by decide +kernel
theorem dX1_pickByJumps_35 : decode cX1_pickByJumps 35 = .ok (.iinc 3 1, 3) := by decide +kernel
theorem dX1_pickByJumps_38 : decode cX1_pickByJumps 38 = .ok (.goto (-36), 3) := by decide +kernel
theorem dX1_pickByJumps_41 : decode cX1_pickByJumps 41 = .ok (.return_, 1) := by decide +kernel
theorem dX1_pickFirstFrom_0 : decode cX1_pickFirstFrom 0 = .ok (.iload_n 2, 1) := by decide +kernel
theorem dX1_pickFirstFrom_1 : decode cX1_pickFirstFrom 1 = .ok (.istore_n 3, 1) := by decide +kernel
theorem dX1_pickFirstFrom_2 : decode cX1_pickFirstFrom 2 = .ok (.iconst 0, 1) := by decide +kernel
theorem dX1_pickFirstFrom_3 : decode cX1_pickFirstFrom 3 = .ok (.istore 4, 2) := by decide +kernel
theorem dX1_pickFirstFrom_5 : decode cX1_pickFirstFrom 5 = .ok (.iload 4, 2) := by decide +kernel
theorem dX1_pickFirstFrom_7 : decode cX1_pickFirstFrom 7 = .ok (.aload_n 1, 1) := by decide +kernel
theorem dX1_pickFirstFrom_8 : decode cX1_pickFirstFrom 8 = .ok (.getfield 56, 3) := by decide +kernel
theorem dX1_pickFirstFrom_11 : decode cX1_pickFirstFrom 11 = .ok (.if_icmp .ge 45, 3) := by decide +kernel
theorem dX1_pickFirstFrom_14 : decode cX1_pickFirstFrom 14 = .ok (.aload_n 1, 1) := by decide +kernel
theorem dX1_pickFirstFrom_15 : decode cX1_pickFirstFrom 15 = .ok (.getfield 62, 3) := by decide +kernel
theorem dX1_pickFirstFrom_18 : decode cX1_pickFirstFrom 18 = .ok (.iload_n 3, 1) := by decide +kernel
theorem dX1_pickFirstFrom_19 : decode cX1_pickFirstFrom 19 = .ok (.saload, 1) := by decide +kernel
theorem dX1_pickFirstFrom_20 : decode cX1_pickFirstFrom 20 = .ok (.istore_n 3, 1) := by decide +kernel
theorem dX1_pickFirstFrom_21 : decode cX1_pickFirstFrom 21 = .ok (.aload_n 0, 1) := by decide +kernel
theorem dX1_pickFirstFrom_22 : decode cX1_pickFirstFrom 22 = .ok (.aload_n 1, 1) := by decide +kernel
theorem dX1_pickFirstFrom_23 : decode cX1_pickFirstFrom 23 = .ok (.getfield 66, 3) := by decide +kernel
theorem dX1_pickFirstFrom_26 : decode cX1_pickFirstFrom 26 = .ok (.iload_n 3, 1) := by decide +kernel
theorem dX1_pickFirstFrom_27 : decode cX1_pickFirstFrom 27 = .ok (.baload, 1) := by decide +kernel
theorem dX1_pickFirstFrom_28 : decode cX1_pickFirstFrom 28 = .ok (.invokevirtual 70, 3) := by decide +kernel
theorem dX1_pickFirstFrom_31 : decode cX1_pickFirstFrom 31 = .ok (.ifCond .ne 14, 3) := by decide +kernel
theorem dX1_pickFirstFrom_34 : decode cX1_pickFirstFrom 34 = .ok (.aload_n 0, 1) := by decide +kernel
theorem dX1_pickFirstFrom_35 : decode cX1_pickFirstFrom 35 = .ok (.aload_n 1, 1) := by decide +kernel
theorem dX1_pickFirstFrom_36 : decode cX1_pickFirstFrom 36 = .ok (.getfield 66, 3) := by decide +kernel
theorem dX1_pickFirstFrom_39 : decode cX1_pickFirstFrom 39 = .ok (.iload_n 3, 1) := by decide +kernel
theorem dX1_pickFirstFrom_40 : decode cX1_pickFirstFrom 40 = .ok (.baload, 1) := by decide +kernel
theorem dX1_pickFirstFrom_41 : decode cX1_pickFirstFrom 41 = .ok (.invokevirtual 74, 3) := by decide +kernel
theorem dX1_pickFirstFrom_44 : decode cX1_pickFirstFrom 44 = .ok (.return_, 1) := by decide +kernel
theorem dX1_pickFirstFrom_45 : decode cX1_pickFirstFrom 45 = .ok (.iload_n 3, 1) := by decide +kernel
theorem dX1_pickFirstFrom_46 : decode cX1_pickFirstFrom 46 = .ok (.invokestatic 78, 3) := by decide +kernel
theorem dX1_pickFirstFrom_49 : decode cX1_pickFirstFrom 49 = .ok (.istore_n 3, 1) := by decide +kernel
theorem dX1_pickFirstFrom_50 : decode cX1_pickFirstFrom 50 = .ok (.iinc 4 1, 3) := by decide +kernel
theorem dX1_pickFirstFrom_53 : decode cX1_pickFirstFrom 53 = .ok (.goto (-48), 3) := by decide +kernel
theorem dX1_pickFirstFrom_56 : decode cX1_pickFirstFrom 56 = .ok (.return_, 1) := by decide +kernel
theorem dX1_pickBySums_0 : decode cX1_pickBySums 0 = .ok (.iconst 0, 1) := by decide +kernel
theorem dX1_pickBySums_1 : decode cX1_pickBySums 1 = .ok (.istore_n 3, 1) := by decide +kernel
theorem dX1_pickBySums_2 : decode cX1_pickBySums 2 = .ok (.iload_n 3, 1) := by decide +kernel
theorem dX1_pickBySums_3 : decode cX1_pickBySums 3 = .ok (.bipush 12, 2) := by decide +kernel
theorem dX1_pickBySums_5 : decode cX1_pickBySums 5 = .ok (.if_icmp .ge 133, 3) := by decide +kernel
theorem dX1_pickBySums_8 : decode cX1_pickBySums 8 = .ok (.aload_n 1, 1) := by decide +kernel
theorem dX1_pickBySums_9 : decode cX1_pickBySums 9 = .ok (.getfield 59, 3) := by decide +kernel
theorem dX1_pickBySums_12 : decode cX1_pickBySums 12 = .ok (.iload_n 3, 1) := by decide +kernel
theorem dX1_pickBySums_13 : decode cX1_pickBySums 13 = .ok (.ishr, 1) := by decide +kernel
theorem dX1_pickBySums_14 : decode cX1_pickBySums 14 = .ok (.iconst 1, 1) := by decide +kernel
theorem dX1_pickBySums_15 : decode cX1_pickBySums 15 = .ok (.iand, 1) := by decide +kernel
theorem dX1_pickBySums_16 : decode cX1_pickBySums 16 = .ok (.ifCond .ne 6, 3) := by decide +kernel
theorem dX1_pickBySums_19 : decode cX1_pickBySums 19 = .ok (.goto 113, 3) := by decide +kernel
theorem dX1_pickBySums_22 : decode cX1_pickBySums 22 = .ok (.aload_n 1, 1) := by decide +kernel
theorem dX1_pickBySums_23 : decode cX1_pickBySums 23 = .ok (.iload_n 3, 1) := by decide +kernel
theorem dX1_pickBySums_24 : decode cX1_pickBySums 24 = .ok (.iload_n 2, 1) := by decide +kernel
theorem dX1_pickBySums_25 : decode cX1_pickBySums 25 = .ok (.invokevirtual 85, 3) := by decide +kernel
theorem dX1_pickBySums_28 : decode cX1_pickBySums 28 = .ok (.istore 4, 2) := by decide +kernel
theorem dX1_pickBySums_30 : decode cX1_pickBySums 30 = .ok (.aload_n 0, 1) := by decide +kernel
theorem dX1_pickBySums_31 : decode cX1_pickBySums 31 = .ok (.getfield 18, 3) := by decide +kernel
theorem dX1_pickBySums_34 : decode cX1_pickBySums 34 = .ok (.istore 5, 2) := by decide +kernel
theorem dX1_pickBySums_36 : decode cX1_pickBySums 36 = .ok (.aload_n 0, 1) := by decide +kernel
theorem dX1_pickBySums_37 : decode cX1_pickBySums 37 = .ok (.getfield 18, 3) := by decide +kernel
theorem dX1_pickBySums_40 : decode cX1_pickBySums 40 = .ok (.istore 6, 2) := by decide +kernel
theorem dX1_pickBySums_42 : decode cX1_pickBySums 42 = .ok (.iload 6, 2) := by decide +kernel
theorem dX1_pickBySums_44 : decode cX1_pickBySums 44 = .ok (.ifCond .le 61, 3) := by decide +kernel
theorem dX1_pickBySums_47 : decode cX1_pickBySums 47 = .ok (.aload_n 0, 1) := by decide +kernel
theorem dX1_pickBySums_48 : decode cX1_pickBySums 48 = .ok (.getfield 34, 3) := by decide +kernel
theorem dX1_pickBySums_51 : decode cX1_pickBySums 51 = .ok (.iload 6, 2) := by decide +kernel
theorem dX1_pickBySums_53 : decode cX1_pickBySums 53 = .ok (.iconst 1, 1) := by decide +kernel
theorem dX1_pickBySums_54 : decode cX1_pickBySums 54 = .ok (.isub, 1) := by decide +kernel
theorem dX1_pickBySums_55 : decode cX1_pickBySums 55 = .ok (.iaload, 1) := by decide +kernel
theorem dX1_pickBySums_56 : decode cX1_pickBySums 56 = .ok (.iload 4, 2) := by decide +kernel
theorem dX1_pickBySums_58 : decode cX1_pickBySums 58 = .ok (.if_icmp .ge 47, 3) := by decide +kernel
theorem dX1_pickBySums_61 : decode cX1_pickBySums 61 = .ok (.aload_n 0, 1) := by decide +kernel
theorem dX1_pickBySums_62 : decode cX1_pickBySums 62 = .ok (.getfield 34, 3) := by decide +kernel
theorem dX1_pickBySums_65 : decode cX1_pickBySums 65 = .ok (.iload 6, 2) := by decide +kernel
theorem dX1_pickBySums_67 : decode cX1_pickBySums 67 = .ok (.aload_n 0, 1) := by decide +kernel
theorem dX1_pickBySums_68 : decode cX1_pickBySums 68 = .ok (.getfield 34, 3) := by decide +kernel
theorem dX1_pickBySums_71 : decode cX1_pickBySums 71 = .ok (.iload 6, 2) := by decide +kernel
theorem dX1_pickBySums_73 : decode cX1_pickBySums 73 = .ok (.iconst 1, 1) := by decide +kernel
theorem dX1_pickBySums_74 : decode cX1_pickBySums 74 = .ok (.isub, 1) := by decide +kernel
theorem dX1_pickBySums_75 : decode cX1_pickBySums 75 = .ok (.iaload, 1) := by decide +kernel
theorem dX1_pickBySums_76 : decode cX1_pickBySums 76 = .ok (.iastore, 1) := by decide +kernel
theorem dX1_pickBySums_77 : decode cX1_pickBySums 77 = .ok (.aload_n 0, 1) := by decide +kernel
theorem dX1_pickBySums_78 : decode cX1_pickBySums 78 = .ok (.getfield 9, 3) := by decide +kernel
theorem dX1_pickBySums_81 : decode cX1_pickBySums 81 = .ok (.iload 6, 2) := by decide +kernel
theorem dX1_pickBySums_83 : decode cX1_pickBySums 83 = .ok (.aload_n 0, 1) := by decide +kernel
theorem dX1_pickBySums_84 : decode cX1_pickBySums 84 = .ok (.getfield 9, 3) := by decide +kernel
theorem dX1_pickBySums_87 : decode cX1_pickBySums 87 = .ok (.iload 6, 2) := by decide +kernel
theorem dX1_pickBySums_89 : decode cX1_pickBySums 89 = .ok (.iconst 1, 1) := by decide +kernel
theorem dX1_pickBySums_90 : decode cX1_pickBySums 90 = .ok (.isub, 1) := by decide +kernel
theorem dX1_pickBySums_91 : decode cX1_pickBySums 91 = .ok (.iaload, 1) := by decide +kernel
theorem dX1_pickBySums_92 : decode cX1_pickBySums 92 = .ok (.iastore, 1) := by decide +kernel
theorem dX1_pickBySums_93 : decode cX1_pickBySums 93 = .ok (.iload 6, 2) := by decide +kernel
theorem dX1_pickBySums_95 : decode cX1_pickBySums 95 = .ok (.iconst 1, 1) := by decide +kernel
theorem dX1_pickBySums_96 : decode cX1_pickBySums 96 = .ok (.isub, 1) := by decide +kernel
theorem dX1_pickBySums_97 : decode cX1_pickBySums 97 = .ok (.istore 5, 2) := by decide +kernel
theorem dX1_pickBySums_99 : decode cX1_pickBySums 99 = .ok (.iinc 6 (-1), 3) := by decide +kernel
theorem dX1_pickBySums_102 : decode cX1_pickBySums 102 = .ok (.goto (-60), 3) := by decide +kernel
theorem dX1_pickBySums_105 : decode cX1_pickBySums 105 = .ok (.aload_n 0, 1) := by decide +kernel
theorem dX1_pickBySums_106 : decode cX1_pickBySums 106 = .ok (.getfield 34, 3) := by decide +kernel
theorem dX1_pickBySums_109 : decode cX1_pickBySums 109 = .ok (.iload 5, 2) := by decide +kernel
theorem dX1_pickBySums_111 : decode cX1_pickBySums 111 = .ok (.iload 4, 2) := by decide +kernel
theorem dX1_pickBySums_113 : decode cX1_pickBySums 113 = .ok (.iastore, 1) := by decide +kernel
theorem dX1_pickBySums_114 : decode cX1_pickBySums 114 = .ok (.aload_n 0, 1) := by decide +kernel
theorem dX1_pickBySums_115 : decode cX1_pickBySums 115 = .ok (.getfield 9, 3) := by decide +kernel
theorem dX1_pickBySums_118 : decode cX1_pickBySums 118 = .ok (.iload 5, 2) := by decide +kernel
theorem dX1_pickBySums_120 : decode cX1_pickBySums 120 = .ok (.iload_n 3, 1) := by decide +kernel
theorem dX1_pickBySums_121 : decode cX1_pickBySums 121 = .ok (.iastore, 1) := by decide +kernel
theorem dX1_pickBySums_122 : decode cX1_pickBySums 122 = .ok (.aload_n 0, 1) := by decide +kernel
theorem dX1_pickBySums_123 : decode cX1_pickBySums 123 = .ok (.dup, 1) := by decide +kernel
theorem dX1_pickBySums_124 : decode cX1_pickBySums 124 = .ok (.getfield 18, 3) := by decide +kernel
theorem dX1_pickBySums_127 : decode cX1_pickBySums 127 = .ok (.iconst 1, 1) := by decide +kernel
theorem dX1_pickBySums_128 : decode cX1_pickBySums 128 = .ok (.iadd, 1) := by decide +kernel
theorem dX1_pickBySums_129 : decode cX1_pickBySums 129 = .ok (.putfield 18, 3) := by decide +kernel
theorem dX1_pickBySums_132 : decode cX1_pickBySums 132 = .ok (.iinc 3 1, 3) := by decide +kernel
theorem dX1_pickBySums_135 : decode cX1_pickBySums 135 = .ok (.goto (-133), 3) := by decide +kernel
theorem dX1_pickBySums_138 : decode cX1_pickBySums 138 = .ok (.aload_n 0, 1) := by decide +kernel
theorem dX1_pickBySums_139 : decode cX1_pickBySums 139 = .ok (.aload_n 1, 1) := by decide +kernel
theorem dX1_pickBySums_140 : decode cX1_pickBySums 140 = .ok (.getfield 59, 3) := by decide +kernel
theorem dX1_pickBySums_143 : decode cX1_pickBySums 143 = .ok (.putfield 31, 3) := by decide +kernel
theorem dX1_pickBySums_146 : decode cX1_pickBySums 146 = .ok (.return_, 1) := by decide +kernel
theorem dX1_isPicked_0 : decode cX1_isPicked 0 = .ok (.aload_n 0, 1) := by decide +kernel
theorem dX1_isPicked_1 : decode cX1_isPicked 1 = .ok (.getfield 31, 3) := by decide +kernel
theorem dX1_isPicked_4 : decode cX1_isPicked 4 = .ok (.iload_n 1, 1) := by decide +kernel
theorem dX1_isPicked_5 : decode cX1_isPicked 5 = .ok (.ishr, 1) := by decide +kernel
theorem dX1_isPicked_6 : decode cX1_isPicked 6 = .ok (.iconst 1, 1) := by decide +kernel
theorem dX1_isPicked_7 : decode cX1_isPicked 7 = .ok (.iand, 1) := by decide +kernel
theorem dX1_isPicked_8 : decode cX1_isPicked 8 = .ok (.iconst 1, 1) := by decide +kernel
theorem dX1_isPicked_9 : decode cX1_isPicked 9 = .ok (.if_icmp .ne 7, 3) := by decide +kernel
theorem dX1_isPicked_12 : decode cX1_isPicked 12 = .ok (.iconst 1, 1) := by decide +kernel
theorem dX1_isPicked_13 : decode cX1_isPicked 13 = .ok (.goto 4, 3) := by decide +kernel
theorem dX1_isPicked_16 : decode cX1_isPicked 16 = .ok (.iconst 0, 1) := by decide +kernel
theorem dX1_isPicked_17 : decode cX1_isPicked 17 = .ok (.ireturn, 1) := by decide +kernel
theorem dX1_takePick_0 : decode cX1_takePick 0 = .ok (.aload_n 0, 1) := by decide +kernel
theorem dX1_takePick_1 : decode cX1_takePick 1 = .ok (.getfield 18, 3) := by decide +kernel
theorem dX1_takePick_4 : decode cX1_takePick 4 = .ok (.bipush 12, 2) := by decide +kernel
theorem dX1_takePick_6 : decode cX1_takePick 6 = .ok (.if_icmp .lt 4, 3) := by decide +kernel
theorem dX1_takePick_9 : decode cX1_takePick 9 = .ok (.return_, 1) := by decide +kernel
theorem dX1_takePick_10 : decode cX1_takePick 10 = .ok (.aload_n 0, 1) := by decide +kernel
theorem dX1_takePick_11 : decode cX1_takePick 11 = .ok (.getfield 9, 3) := by decide +kernel
theorem dX1_takePick_14 : decode cX1_takePick 14 = .ok (.aload_n 0, 1) := by decide +kernel
theorem dX1_takePick_15 : decode cX1_takePick 15 = .ok (.getfield 18, 3) := by decide +kernel
theorem dX1_takePick_18 : decode cX1_takePick 18 = .ok (.iload_n 1, 1) := by decide +kernel
theorem dX1_takePick_19 : decode cX1_takePick 19 = .ok (.iastore, 1) := by decide +kernel
theorem dX1_takePick_20 : decode cX1_takePick 20 = .ok (.aload_n 0, 1) := by decide +kernel
theorem dX1_takePick_21 : decode cX1_takePick 21 = .ok (.dup, 1) := by decide +kernel
theorem dX1_takePick_22 : decode cX1_takePick 22 = .ok (.getfield 18, 3) := by decide +kernel
theorem dX1_takePick_25 : decode cX1_takePick 25 = .ok (.iconst 1, 1) := by decide +kernel
theorem dX1_takePick_26 : decode cX1_takePick 26 = .ok (.iadd, 1) := by decide +kernel
theorem dX1_takePick_27 : decode cX1_takePick 27 = .ok (.putfield 18, 3) := by decide +kernel
theorem dX1_takePick_30 : decode cX1_takePick 30 = .ok (.aload_n 0, 1) := by decide +kernel
theorem dX1_takePick_31 : decode cX1_takePick 31 = .ok (.dup, 1) := by decide +kernel
theorem dX1_takePick_32 : decode cX1_takePick 32 = .ok (.getfield 31, 3) := by decide +kernel
theorem dX1_takePick_35 : decode cX1_takePick 35 = .ok (.iconst 1, 1) := by decide +kernel
theorem dX1_takePick_36 : decode cX1_takePick 36 = .ok (.iload_n 1, 1) := by decide +kernel
theorem dX1_takePick_37 : decode cX1_takePick 37 = .ok (.ishl, 1) := by decide +kernel
theorem dX1_takePick_38 : decode cX1_takePick 38 = .ok (.ior, 1) := by decide +kernel
theorem dX1_takePick_39 : decode cX1_takePick 39 = .ok (.putfield 31, 3) := by decide +kernel
theorem dX1_takePick_42 : decode cX1_takePick 42 = .ok (.return_, 1) := by decide +kernel
theorem dX1_choose_0 : decode cX1_choose 0 = .ok (.aload_n 0, 1) := by decide +kernel
theorem dX1_choose_1 : decode cX1_choose 1 = .ok (.aload_n 1, 1) := by decide +kernel
theorem dX1_choose_2 : decode cX1_choose 2 = .ok (.iload_n 2, 1) := by decide +kernel
theorem dX1_choose_3 : decode cX1_choose 3 = .ok (.invokevirtual 89, 3) := by decide +kernel
theorem dX1_choose_6 : decode cX1_choose 6 = .ok (.aload_n 0, 1) := by decide +kernel
theorem dX1_choose_7 : decode cX1_choose 7 = .ok (.iconst 0, 1) := by decide +kernel
theorem dX1_choose_8 : decode cX1_choose 8 = .ok (.putfield 22, 3) := by decide +kernel
theorem dX1_choose_11 : decode cX1_choose 11 = .ok (.aload_n 0, 1) := by decide +kernel
theorem dX1_choose_12 : decode cX1_choose 12 = .ok (.iconst 0, 1) := by decide +kernel
theorem dX1_choose_13 : decode cX1_choose 13 = .ok (.putfield 25, 3) := by decide +kernel
theorem dX1_choose_16 : decode cX1_choose 16 = .ok (.aload_n 0, 1) := by decide +kernel
theorem dX1_choose_17 : decode cX1_choose 17 = .ok (.iconst 0, 1) := by decide +kernel
theorem dX1_choose_18 : decode cX1_choose 18 = .ok (.putfield 28, 3) := by decide +kernel
theorem dX1_choose_21 : decode cX1_choose 21 = .ok (.iconst 0, 1) := by decide +kernel
theorem dX1_choose_22 : decode cX1_choose 22 = .ok (.istore_n 3, 1) := by decide +kernel
theorem dX1_choose_23 : decode cX1_choose 23 = .ok (.iload_n 3, 1) := by decide +kernel
theorem dX1_choose_24 : decode cX1_choose 24 = .ok (.aload_n 0, 1) := by decide +kernel
theorem dX1_choose_25 : decode cX1_choose 25 = .ok (.getfield 18, 3) := by decide +kernel
theorem dX1_choose_28 : decode cX1_choose 28 = .ok (.if_icmp .ge 61, 3) := by decide +kernel
theorem dX1_choose_31 : decode cX1_choose 31 = .ok (.aload_n 0, 1) := by decide +kernel
theorem dX1_choose_32 : decode cX1_choose 32 = .ok (.getfield 22, 3) := by decide +kernel
theorem dX1_choose_35 : decode cX1_choose 35 = .ok (.aload_n 1, 1) := by decide +kernel
theorem dX1_choose_36 : decode cX1_choose 36 = .ok (.getfield 92, 3) := by decide +kernel
theorem dX1_choose_39 : decode cX1_choose 39 = .ok (.aload_n 1, 1) := by decide +kernel
theorem dX1_choose_40 : decode cX1_choose 40 = .ok (.getfield 95, 3) := by decide +kernel
theorem dX1_choose_43 : decode cX1_choose 43 = .ok (.invokestatic 98, 3) := by decide +kernel
theorem dX1_choose_46 : decode cX1_choose 46 = .ok (.if_icmp .ge 43, 3) := by decide +kernel
theorem dX1_choose_49 : decode cX1_choose 49 = .ok (.aload_n 0, 1) := by decide +kernel
theorem dX1_choose_50 : decode cX1_choose 50 = .ok (.getfield 28, 3) := by decide +kernel
theorem dX1_choose_53 : decode cX1_choose 53 = .ok (.aload_n 0, 1) := by decide +kernel
theorem dX1_choose_54 : decode cX1_choose 54 = .ok (.getfield 37, 3) := by decide +kernel
theorem dX1_choose_57 : decode cX1_choose 57 = .ok (.getfield 103, 3) := by decide +kernel
theorem dX1_choose_60 : decode cX1_choose 60 = .ok (.aload_n 0, 1) := by decide +kernel
theorem dX1_choose_61 : decode cX1_choose 61 = .ok (.getfield 9, 3) := by decide +kernel
theorem dX1_choose_64 : decode cX1_choose 64 = .ok (.iload_n 3, 1) := by decide +kernel
theorem dX1_choose_65 : decode cX1_choose 65 = .ok (.iaload, 1) := by decide +kernel
theorem dX1_choose_66 : decode cX1_choose 66 = .ok (.iaload, 1) := by decide +kernel
theorem dX1_choose_67 : decode cX1_choose 67 = .ok (.ishr, 1) := by decide +kernel
theorem dX1_choose_68 : decode cX1_choose 68 = .ok (.iconst 1, 1) := by decide +kernel
theorem dX1_choose_69 : decode cX1_choose 69 = .ok (.iand, 1) := by decide +kernel
theorem dX1_choose_70 : decode cX1_choose 70 = .ok (.ifCond .ne 13, 3) := by decide +kernel
theorem dX1_choose_73 : decode cX1_choose 73 = .ok (.aload_n 0, 1) := by decide +kernel
theorem dX1_choose_74 : decode cX1_choose 74 = .ok (.aload_n 0, 1) := by decide +kernel
theorem dX1_choose_75 : decode cX1_choose 75 = .ok (.getfield 9, 3) := by decide +kernel
theorem dX1_choose_78 : decode cX1_choose 78 = .ok (.iload_n 3, 1) := by decide +kernel
theorem dX1_choose_79 : decode cX1_choose 79 = .ok (.iaload, 1) := by decide +kernel
theorem dX1_choose_80 : decode cX1_choose 80 = .ok (.invokevirtual 108, 3) := by decide +kernel
theorem dX1_choose_83 : decode cX1_choose 83 = .ok (.iinc 3 1, 3) := by decide +kernel
theorem dX1_choose_86 : decode cX1_choose 86 = .ok (.goto (-63), 3) := by decide +kernel
theorem dX1_choose_89 : decode cX1_choose 89 = .ok (.iconst 0, 1) := by decide +kernel
theorem dX1_choose_90 : decode cX1_choose 90 = .ok (.istore_n 3, 1) := by decide +kernel
theorem dX1_choose_91 : decode cX1_choose 91 = .ok (.iload_n 3, 1) := by decide +kernel
theorem dX1_choose_92 : decode cX1_choose 92 = .ok (.aload_n 0, 1) := by decide +kernel
theorem dX1_choose_93 : decode cX1_choose 93 = .ok (.getfield 18, 3) := by decide +kernel
theorem dX1_choose_96 : decode cX1_choose 96 = .ok (.if_icmp .ge 43, 3) := by decide +kernel
theorem dX1_choose_99 : decode cX1_choose 99 = .ok (.aload_n 0, 1) := by decide +kernel
theorem dX1_choose_100 : decode cX1_choose 100 = .ok (.getfield 22, 3) := by decide +kernel
theorem dX1_choose_103 : decode cX1_choose 103 = .ok (.aload_n 1, 1) := by decide +kernel
theorem dX1_choose_104 : decode cX1_choose 104 = .ok (.getfield 92, 3) := by decide +kernel
theorem dX1_choose_107 : decode cX1_choose 107 = .ok (.if_icmp .ge 32, 3) := by decide +kernel
theorem dX1_choose_110 : decode cX1_choose 110 = .ok (.aload_n 0, 1) := by decide +kernel
theorem dX1_choose_111 : decode cX1_choose 111 = .ok (.aload_n 0, 1) := by decide +kernel
theorem dX1_choose_112 : decode cX1_choose 112 = .ok (.getfield 9, 3) := by decide +kernel
theorem dX1_choose_115 : decode cX1_choose 115 = .ok (.iload_n 3, 1) := by decide +kernel
theorem dX1_choose_116 : decode cX1_choose 116 = .ok (.iaload, 1) := by decide +kernel
theorem dX1_choose_117 : decode cX1_choose 117 = .ok (.invokevirtual 111, 3) := by decide +kernel
theorem dX1_choose_120 : decode cX1_choose 120 = .ok (.ifCond .ne 13, 3) := by decide +kernel
theorem dX1_choose_123 : decode cX1_choose 123 = .ok (.aload_n 0, 1) := by decide +kernel
theorem dX1_choose_124 : decode cX1_choose 124 = .ok (.aload_n 0, 1) := by decide +kernel
theorem dX1_choose_125 : decode cX1_choose 125 = .ok (.getfield 9, 3) := by decide +kernel
theorem dX1_choose_128 : decode cX1_choose 128 = .ok (.iload_n 3, 1) := by decide +kernel
theorem dX1_choose_129 : decode cX1_choose 129 = .ok (.iaload, 1) := by decide +kernel
theorem dX1_choose_130 : decode cX1_choose 130 = .ok (.invokevirtual 108, 3) := by decide +kernel
theorem dX1_choose_133 : decode cX1_choose 133 = .ok (.iinc 3 1, 3) := by decide +kernel
theorem dX1_choose_136 : decode cX1_choose 136 = .ok (.goto (-45), 3) := by decide +kernel
theorem dX1_choose_139 : decode cX1_choose 139 = .ok (.return_, 1) := by decide +kernel
theorem dX1_isChosen_0 : decode cX1_isChosen 0 = .ok (.aload_n 0, 1) := by decide +kernel
theorem dX1_isChosen_1 : decode cX1_isChosen 1 = .ok (.getfield 25, 3) := by decide +kernel
theorem dX1_isChosen_4 : decode cX1_isChosen 4 = .ok (.iload_n 1, 1) := by decide +kernel
theorem dX1_isChosen_5 : decode cX1_isChosen 5 = .ok (.ishr, 1) := by decide +kernel
theorem dX1_isChosen_6 : decode cX1_isChosen 6 = .ok (.iconst 1, 1) := by decide +kernel
theorem dX1_isChosen_7 : decode cX1_isChosen 7 = .ok (.iand, 1) := by decide +kernel
theorem dX1_isChosen_8 : decode cX1_isChosen 8 = .ok (.iconst 1, 1) := by decide +kernel
theorem dX1_isChosen_9 : decode cX1_isChosen 9 = .ok (.if_icmp .ne 7, 3) := by decide +kernel
theorem dX1_isChosen_12 : decode cX1_isChosen 12 = .ok (.iconst 1, 1) := by decide +kernel
theorem dX1_isChosen_13 : decode cX1_isChosen 13 = .ok (.goto 4, 3) := by decide +kernel
theorem dX1_isChosen_16 : decode cX1_isChosen 16 = .ok (.iconst 0, 1) := by decide +kernel
theorem dX1_isChosen_17 : decode cX1_isChosen 17 = .ok (.ireturn, 1) := by decide +kernel
theorem dX1_takeChosen_0 : decode cX1_takeChosen 0 = .ok (.aload_n 0, 1) := by decide +kernel
theorem dX1_takeChosen_1 : decode cX1_takeChosen 1 = .ok (.getfield 15, 3) := by decide +kernel
theorem dX1_takeChosen_4 : decode cX1_takeChosen 4 = .ok (.aload_n 0, 1) := by decide +kernel
theorem dX1_takeChosen_5 : decode cX1_takeChosen 5 = .ok (.getfield 22, 3) := by decide +kernel
theorem dX1_takeChosen_8 : decode cX1_takeChosen 8 = .ok (.iload_n 1, 1) := by decide +kernel
theorem dX1_takeChosen_9 : decode cX1_takeChosen 9 = .ok (.iastore, 1) := by decide +kernel
theorem dX1_takeChosen_10 : decode cX1_takeChosen 10 = .ok (.aload_n 0, 1) := by decide +kernel
theorem dX1_takeChosen_11 : decode cX1_takeChosen 11 = .ok (.dup, 1) := by decide +kernel
theorem dX1_takeChosen_12 : decode cX1_takeChosen 12 = .ok (.getfield 22, 3) := by decide +kernel
theorem dX1_takeChosen_15 : decode cX1_takeChosen 15 = .ok (.iconst 1, 1) := by decide +kernel
theorem dX1_takeChosen_16 : decode cX1_takeChosen 16 = .ok (.iadd, 1) := by decide +kernel
theorem dX1_takeChosen_17 : decode cX1_takeChosen 17 = .ok (.putfield 22, 3) := by decide +kernel
theorem dX1_takeChosen_20 : decode cX1_takeChosen 20 = .ok (.aload_n 0, 1) := by decide +kernel
theorem dX1_takeChosen_21 : decode cX1_takeChosen 21 = .ok (.dup, 1) := by decide +kernel
theorem dX1_takeChosen_22 : decode cX1_takeChosen 22 = .ok (.getfield 25, 3) := by decide +kernel
theorem dX1_takeChosen_25 : decode cX1_takeChosen 25 = .ok (.iconst 1, 1) := by decide +kernel
theorem dX1_takeChosen_26 : decode cX1_takeChosen 26 = .ok (.iload_n 1, 1) := by decide +kernel
theorem dX1_takeChosen_27 : decode cX1_takeChosen 27 = .ok (.ishl, 1) := by decide +kernel
theorem dX1_takeChosen_28 : decode cX1_takeChosen 28 = .ok (.ior, 1) := by decide +kernel
theorem dX1_takeChosen_29 : decode cX1_takeChosen 29 = .ok (.putfield 25, 3) := by decide +kernel
theorem dX1_takeChosen_32 : decode cX1_takeChosen 32 = .ok (.aload_n 0, 1) := by decide +kernel
theorem dX1_takeChosen_33 : decode cX1_takeChosen 33 = .ok (.dup, 1) := by decide +kernel
theorem dX1_takeChosen_34 : decode cX1_takeChosen 34 = .ok (.getfield 28, 3) := by decide +kernel
theorem dX1_takeChosen_37 : decode cX1_takeChosen 37 = .ok (.iconst 1, 1) := by decide +kernel
theorem dX1_takeChosen_38 : decode cX1_takeChosen 38 = .ok (.aload_n 0, 1) := by decide +kernel
theorem dX1_takeChosen_39 : decode cX1_takeChosen 39 = .ok (.getfield 37, 3) := by decide +kernel
theorem dX1_takeChosen_42 : decode cX1_takeChosen 42 = .ok (.getfield 103, 3) := by decide +kernel
theorem dX1_takeChosen_45 : decode cX1_takeChosen 45 = .ok (.iload_n 1, 1) := by decide +kernel
theorem dX1_takeChosen_46 : decode cX1_takeChosen 46 = .ok (.iaload, 1) := by decide +kernel
theorem dX1_takeChosen_47 : decode cX1_takeChosen 47 = .ok (.ishl, 1) := by decide +kernel
theorem dX1_takeChosen_48 : decode cX1_takeChosen 48 = .ok (.ior, 1) := by decide +kernel
theorem dX1_takeChosen_49 : decode cX1_takeChosen 49 = .ok (.putfield 28, 3) := by decide +kernel
theorem dX1_takeChosen_52 : decode cX1_takeChosen 52 = .ok (.return_, 1) := by decide +kernel
theorem dX2_has_12 : decode cX2_has 12 = .ok (.iconst 1, 1) := by decide +kernel
theorem dX2_has_13 : decode cX2_has 13 = .ok (.goto 4, 3) := by decide +kernel
theorem dX2_counting_0 : decode cX2_counting 0 = .ok (.aload_n 0, 1) := by decide +kernel
theorem dX2_counting_1 : decode cX2_counting 1 = .ok (.getfield 9, 3) := by decide +kernel
theorem dX2_counting_4 : decode cX2_counting 4 = .ok (.iload_n 1, 1) := by decide +kernel
theorem dX2_counting_5 : decode cX2_counting 5 = .ok (.iaload, 1) := by decide +kernel
theorem dX2_counting_6 : decode cX2_counting 6 = .ok (.iconst 1, 1) := by decide +kernel
theorem dX2_counting_7 : decode cX2_counting 7 = .ok (.if_icmp .eq 14, 3) := by decide +kernel
theorem dX2_counting_10 : decode cX2_counting 10 = .ok (.aload_n 0, 1) := by decide +kernel
theorem dX2_counting_11 : decode cX2_counting 11 = .ok (.getfield 9, 3) := by decide +kernel
theorem dX2_counting_14 : decode cX2_counting 14 = .ok (.iload_n 1, 1) := by decide +kernel
theorem dX2_counting_15 : decode cX2_counting 15 = .ok (.iaload, 1) := by decide +kernel
theorem dX2_counting_16 : decode cX2_counting 16 = .ok (.bipush 6, 2) := by decide +kernel
theorem dX2_counting_18 : decode cX2_counting 18 = .ok (.if_icmp .ne 7, 3) := by decide +kernel
theorem dX2_counting_21 : decode cX2_counting 21 = .ok (.iconst 1, 1) := by decide +kernel
theorem dX2_counting_22 : decode cX2_counting 22 = .ok (.goto 4, 3) := by decide +kernel
theorem dX2_counting_25 : decode cX2_counting 25 = .ok (.iconst 0, 1) := by decide +kernel
theorem dX2_counting_26 : decode cX2_counting 26 = .ok (.istore_n 2, 1) := by decide +kernel
theorem dX2_counting_27 : decode cX2_counting 27 = .ok (.iload_n 2, 1) := by decide +kernel
theorem dX2_counting_28 : decode cX2_counting 28 = .ok (.ifCond .eq 14, 3) := by decide +kernel
theorem dX2_counting_31 : decode cX2_counting 31 = .ok (.iconst 2, 1) := by decide +kernel
theorem dX2_counting_32 : decode cX2_counting 32 = .ok (.aload_n 0, 1) := by decide +kernel
theorem dX2_counting_33 : decode cX2_counting 33 = .ok (.getfield 18, 3) := by decide +kernel
theorem dX2_counting_36 : decode cX2_counting 36 = .ok (.iload_n 1, 1) := by decide +kernel
theorem dX2_counting_37 : decode cX2_counting 37 = .ok (.iaload, 1) := by decide +kernel
theorem dX2_counting_38 : decode cX2_counting 38 = .ok (.imul, 1) := by decide +kernel
theorem dX2_counting_39 : decode cX2_counting 39 = .ok (.goto 9, 3) := by decide +kernel
theorem dX2_counting_42 : decode cX2_counting 42 = .ok (.aload_n 0, 1) := by decide +kernel
theorem dX2_counting_43 : decode cX2_counting 43 = .ok (.getfield 18, 3) := by decide +kernel
theorem dX2_counting_46 : decode cX2_counting 46 = .ok (.iload_n 1, 1) := by decide +kernel
theorem dX2_counting_47 : decode cX2_counting 47 = .ok (.iaload, 1) := by decide +kernel
theorem dX2_counting_48 : decode cX2_counting 48 = .ok (.ireturn, 1) := by decide +kernel
theorem dX2_isUp_0 : decode cX2_isUp 0 = .ok (.aload_n 0, 1) := by decide +kernel
theorem dX2_isUp_1 : decode cX2_isUp 1 = .ok (.getfield 24, 3) := by decide +kernel
theorem dX2_isUp_4 : decode cX2_isUp 4 = .ok (.iload_n 1, 1) := by decide +kernel
theorem dX2_isUp_5 : decode cX2_isUp 5 = .ok (.baload, 1) := by decide +kernel
theorem dX2_isUp_6 : decode cX2_isUp 6 = .ok (.ifCond .ne 17, 3) := by decide +kernel
theorem dX2_isUp_9 : decode cX2_isUp 9 = .ok (.aload_n 0, 1) := by decide +kernel
theorem dX2_isUp_10 : decode cX2_isUp 10 = .ok (.getfield 9, 3) := by decide +kernel
theorem dX2_isUp_13 : decode cX2_isUp 13 = .ok (.iload_n 1, 1) := by decide +kernel
theorem dX2_isUp_14 : decode cX2_isUp 14 = .ok (.iaload, 1) := by decide +kernel
theorem dX2_isUp_15 : decode cX2_isUp 15 = .ok (.iconst 4, 1) := by decide +kernel
theorem dX2_isUp_16 : decode cX2_isUp 16 = .ok (.if_icmp .eq 7, 3) := by decide +kernel
theorem dX2_isUp_19 : decode cX2_isUp 19 = .ok (.iconst 1, 1) := by decide +kernel
theorem dX2_isUp_20 : decode cX2_isUp 20 = .ok (.goto 4, 3) := by decide +kernel
theorem dX2_isUp_23 : decode cX2_isUp 23 = .ok (.iconst 0, 1) := by decide +kernel
theorem dX2_isUp_24 : decode cX2_isUp 24 = .ok (.ireturn, 1) := by decide +kernel
theorem dX3_workOut_0 : decode cX3_workOut 0 = .ok (.aload_n 0, 1) := by decide +kernel
theorem dX3_workOut_1 : decode cX3_workOut 1 = .ok (.aload_n 1, 1) := by decide +kernel
theorem dX3_workOut_2 : decode cX3_workOut 2 = .ok (.getfield 37, 3) := by decide +kernel
theorem dX3_workOut_5 : decode cX3_workOut 5 = .ok (.putfield 9, 3) := by decide +kernel
theorem dX3_workOut_8 : decode cX3_workOut 8 = .ok (.aload_n 0, 1) := by decide +kernel
theorem dX3_workOut_9 : decode cX3_workOut 9 = .ok (.aload_n 1, 1) := by decide +kernel
theorem dX3_workOut_10 : decode cX3_workOut 10 = .ok (.getfield 42, 3) := by decide +kernel
theorem dX3_workOut_13 : decode cX3_workOut 13 = .ok (.putfield 15, 3) := by decide +kernel
theorem dX3_workOut_16 : decode cX3_workOut 16 = .ok (.aload_n 0, 1) := by decide +kernel
theorem dX3_workOut_17 : decode cX3_workOut 17 = .ok (.iconst 0, 1) := by decide +kernel
theorem dX3_workOut_18 : decode cX3_workOut 18 = .ok (.putfield 19, 3) := by decide +kernel
theorem dX3_workOut_21 : decode cX3_workOut 21 = .ok (.aload_n 0, 1) := by decide +kernel
theorem dX3_workOut_22 : decode cX3_workOut 22 = .ok (.iconst (-1), 1) := by decide +kernel
theorem dX3_workOut_23 : decode cX3_workOut 23 = .ok (.putfield 22, 3) := by decide +kernel
theorem dX3_workOut_26 : decode cX3_workOut 26 = .ok (.aload_n 0, 1) := by decide +kernel
theorem dX3_workOut_27 : decode cX3_workOut 27 = .ok (.aload_n 1, 1) := by decide +kernel
theorem dX3_workOut_28 : decode cX3_workOut 28 = .ok (.aload_n 2, 1) := by decide +kernel
theorem dX3_workOut_29 : decode cX3_workOut 29 = .ok (.invokevirtual 45, 3) := by decide +kernel
theorem dX3_workOut_32 : decode cX3_workOut 32 = .ok (.aload_n 1, 1) := by decide +kernel
theorem dX3_workOut_33 : decode cX3_workOut 33 = .ok (.iconst 2, 1) := by decide +kernel
theorem dX3_workOut_34 : decode cX3_workOut 34 = .ok (.putfield 49, 3) := by decide +kernel
theorem dX3_workOut_37 : decode cX3_workOut 37 = .ok (.aload_n 1, 1) := by decide +kernel
theorem dX3_workOut_38 : decode cX3_workOut 38 = .ok (.iconst 1, 1) := by decide +kernel
theorem dX3_workOut_39 : decode cX3_workOut 39 = .ok (.putfield 52, 3) := by decide +kernel
theorem dX3_workOut_42 : decode cX3_workOut 42 = .ok (.aload_n 1, 1) := by decide +kernel
theorem dX3_workOut_43 : decode cX3_workOut 43 = .ok (.iconst 0, 1) := by decide +kernel
theorem dX3_workOut_44 : decode cX3_workOut 44 = .ok (.putfield 55, 3) := by decide +kernel
theorem dX3_workOut_47 : decode cX3_workOut 47 = .ok (.iconst 0, 1) := by decide +kernel
theorem dX3_workOut_48 : decode cX3_workOut 48 = .ok (.istore_n 3, 1) := by decide +kernel
theorem dX3_workOut_49 : decode cX3_workOut 49 = .ok (.iconst 0, 1) := by decide +kernel
theorem dX3_workOut_50 : decode cX3_workOut 50 = .ok (.istore 4, 2) := by decide +kernel
theorem dX3_workOut_52 : decode cX3_workOut 52 = .ok (.iload 4, 2) := by decide +kernel
theorem dX3_workOut_54 : decode cX3_workOut 54 = .ok (.iconst 3, 1) := by decide +kernel
theorem dX3_workOut_55 : decode cX3_workOut 55 = .ok (.if_icmp .ge 86, 3) := by decide +kernel
theorem dX3_workOut_58 : decode cX3_workOut 58 = .ok (.aload_n 0, 1) := by decide +kernel
theorem dX3_workOut_59 : decode cX3_workOut 59 = .ok (.getfield 22, 3) := by decide +kernel
theorem dX3_workOut_62 : decode cX3_workOut 62 = .ok (.iconst (-1), 1) := by decide +kernel
theorem dX3_workOut_63 : decode cX3_workOut 63 = .ok (.if_icmp .ne 78, 3) := by decide +kernel
theorem dX3_workOut_66 : decode cX3_workOut 66 = .ok (.iload_n 3, 1) := by decide +kernel
theorem dX3_workOut_67 : decode cX3_workOut 67 = .ok (.aload_n 0, 1) := by decide +kernel
theorem dX3_workOut_68 : decode cX3_workOut 68 = .ok (.aload_n 1, 1) := by decide +kernel
theorem dX3_workOut_69 : decode cX3_workOut 69 = .ok (.iload_n 3, 1) := by decide +kernel
theorem dX3_workOut_70 : decode cX3_workOut 70 = .ok (.invokevirtual 58, 3) := by decide +kernel
theorem dX3_workOut_73 : decode cX3_workOut 73 = .ok (.ior, 1) := by decide +kernel
theorem dX3_workOut_74 : decode cX3_workOut 74 = .ok (.istore_n 3, 1) := by decide +kernel
theorem dX3_workOut_75 : decode cX3_workOut 75 = .ok (.aload_n 0, 1) := by decide +kernel
theorem dX3_workOut_76 : decode cX3_workOut 76 = .ok (.getfield 22, 3) := by decide +kernel
theorem dX3_workOut_79 : decode cX3_workOut 79 = .ok (.iconst (-1), 1) := by decide +kernel
theorem dX3_workOut_80 : decode cX3_workOut 80 = .ok (.if_icmp .ne 61, 3) := by decide +kernel
theorem dX3_workOut_83 : decode cX3_workOut 83 = .ok (.aload_n 0, 1) := by decide +kernel
theorem dX3_workOut_84 : decode cX3_workOut 84 = .ok (.getfield 19, 3) := by decide +kernel
theorem dX3_workOut_87 : decode cX3_workOut 87 = .ok (.aload_n 0, 1) := by decide +kernel
theorem dX3_workOut_88 : decode cX3_workOut 88 = .ok (.getfield 15, 3) := by decide +kernel
theorem dX3_workOut_91 : decode cX3_workOut 91 = .ok (.if_icmp .lt 6, 3) := by decide +kernel
theorem dX3_workOut_94 : decode cX3_workOut 94 = .ok (.goto 47, 3) := by decide +kernel
theorem dX3_workOut_97 : decode cX3_workOut 97 = .ok (.aload_n 0, 1) := by decide +kernel
theorem dX3_workOut_98 : decode cX3_workOut 98 = .ok (.invokevirtual 62, 3) := by decide +kernel
theorem dX3_workOut_101 : decode cX3_workOut 101 = .ok (.bipush 59, 2) := by decide +kernel
theorem dX3_workOut_103 : decode cX3_workOut 103 = .ok (.if_icmp .ne 24, 3) := by decide +kernel
theorem dX3_workOut_106 : decode cX3_workOut 106 = .ok (.iload 4, 2) := by decide +kernel
theorem dX3_workOut_108 : decode cX3_workOut 108 = .ok (.iconst 1, 1) := by decide +kernel
theorem dX3_workOut_109 : decode cX3_workOut 109 = .ok (.iadd, 1) := by decide +kernel
theorem dX3_workOut_110 : decode cX3_workOut 110 = .ok (.iconst 3, 1) := by decide +kernel
theorem dX3_workOut_111 : decode cX3_workOut 111 = .ok (.if_icmp .ge 16, 3) := by decide +kernel
theorem dX3_workOut_114 : decode cX3_workOut 114 = .ok (.aload_n 0, 1) := by decide +kernel
theorem dX3_workOut_115 : decode cX3_workOut 115 = .ok (.dup, 1) := by decide +kernel
theorem dX3_workOut_116 : decode cX3_workOut 116 = .ok (.getfield 19, 3) := by decide +kernel
theorem dX3_workOut_119 : decode cX3_workOut 119 = .ok (.iconst 1, 1) := by decide +kernel
theorem dX3_workOut_120 : decode cX3_workOut 120 = .ok (.iadd, 1) := by decide +kernel
theorem dX3_workOut_121 : decode cX3_workOut 121 = .ok (.putfield 19, 3) := by decide +kernel
theorem dX3_workOut_124 : decode cX3_workOut 124 = .ok (.goto 11, 3) := by decide +kernel
theorem dX3_workOut_127 : decode cX3_workOut 127 = .ok (.aload_n 0, 1) := by decide +kernel
theorem dX3_workOut_128 : decode cX3_workOut 128 = .ok (.aload_n 0, 1) := by decide +kernel
theorem dX3_workOut_129 : decode cX3_workOut 129 = .ok (.getfield 19, 3) := by decide +kernel
theorem dX3_workOut_132 : decode cX3_workOut 132 = .ok (.putfield 22, 3) := by decide +kernel
theorem dX3_workOut_135 : decode cX3_workOut 135 = .ok (.iinc 4 1, 3) := by decide +kernel
theorem dX3_workOut_138 : decode cX3_workOut 138 = .ok (.goto (-86), 3) := by decide +kernel
theorem dX3_workOut_141 : decode cX3_workOut 141 = .ok (.aload_n 0, 1) := by decide +kernel
theorem dX3_workOut_142 : decode cX3_workOut 142 = .ok (.getfield 22, 3) := by decide +kernel
theorem dX3_workOut_145 : decode cX3_workOut 145 = .ok (.ireturn, 1) := by decide +kernel
theorem dX3_look_0 : decode cX3_look 0 = .ok (.iconst 0, 1) := by decide +kernel
theorem dX3_look_1 : decode cX3_look 1 = .ok (.istore_n 3, 1) := by decide +kernel
theorem dX3_look_2 : decode cX3_look 2 = .ok (.aload_n 0, 1) := by decide +kernel
theorem dX3_look_3 : decode cX3_look 3 = .ok (.aload_n 1, 1) := by decide +kernel
theorem dX3_look_4 : decode cX3_look 4 = .ok (.getfield 66, 3) := by decide +kernel
theorem dX3_look_7 : decode cX3_look 7 = .ok (.invokestatic 67, 3) := by decide +kernel
theorem dX3_look_10 : decode cX3_look 10 = .ok (.putfield 25, 3) := by decide +kernel
theorem dX3_look_13 : decode cX3_look 13 = .ok (.aload_n 0, 1) := by decide +kernel
theorem dX3_look_14 : decode cX3_look 14 = .ok (.iconst 0, 1) := by decide +kernel
theorem dX3_look_15 : decode cX3_look 15 = .ok (.putfield 31, 3) := by decide +kernel
theorem dX3_look_18 : decode cX3_look 18 = .ok (.aload_n 0, 1) := by decide +kernel
theorem dX3_look_19 : decode cX3_look 19 = .ok (.iconst 0, 1) := by decide +kernel
theorem dX3_look_20 : decode cX3_look 20 = .ok (.putfield 34, 3) := by decide +kernel
theorem dX3_look_23 : decode cX3_look 23 = .ok (.iconst 0, 1) := by decide +kernel
theorem dX3_look_24 : decode cX3_look 24 = .ok (.istore 4, 2) := by decide +kernel
theorem dX3_look_26 : decode cX3_look 26 = .ok (.iload 4, 2) := by decide +kernel
theorem dX3_look_28 : decode cX3_look 28 = .ok (.bipush 12, 2) := by decide +kernel
theorem dX3_look_30 : decode cX3_look 30 = .ok (.if_icmp .ge 70, 3) := by decide +kernel
theorem dX3_look_33 : decode cX3_look 33 = .ok (.aload_n 1, 1) := by decide +kernel
theorem dX3_look_34 : decode cX3_look 34 = .ok (.getfield 66, 3) := by decide +kernel
theorem dX3_look_37 : decode cX3_look 37 = .ok (.iload 4, 2) := by decide +kernel
theorem dX3_look_39 : decode cX3_look 39 = .ok (.ishr, 1) := by decide +kernel
theorem dX3_look_40 : decode cX3_look 40 = .ok (.iconst 1, 1) := by decide +kernel
theorem dX3_look_41 : decode cX3_look 41 = .ok (.iand, 1) := by decide +kernel
theorem dX3_look_42 : decode cX3_look 42 = .ok (.ifCond .ne 6, 3) := by decide +kernel
theorem dX3_look_45 : decode cX3_look 45 = .ok (.goto 49, 3) := by decide +kernel
theorem dX3_look_48 : decode cX3_look 48 = .ok (.iload_n 3, 1) := by decide +kernel
theorem dX3_look_49 : decode cX3_look 49 = .ok (.iconst 1, 1) := by decide +kernel
theorem dX3_look_50 : decode cX3_look 50 = .ok (.aload_n 2, 1) := by decide +kernel
theorem dX3_look_51 : decode cX3_look 51 = .ok (.getfield 73, 3) := by decide +kernel
theorem dX3_look_54 : decode cX3_look 54 = .ok (.iload 4, 2) := by decide +kernel
theorem dX3_look_56 : decode cX3_look 56 = .ok (.iaload, 1) := by decide +kernel
theorem dX3_look_57 : decode cX3_look 57 = .ok (.ishl, 1) := by decide +kernel
theorem dX3_look_58 : decode cX3_look 58 = .ok (.ior, 1) := by decide +kernel
theorem dX3_look_59 : decode cX3_look 59 = .ok (.istore_n 3, 1) := by decide +kernel
theorem dX3_look_60 : decode cX3_look 60 = .ok (.aload_n 0, 1) := by decide +kernel
theorem dX3_look_61 : decode cX3_look 61 = .ok (.dup, 1) := by decide +kernel
theorem dX3_look_62 : decode cX3_look 62 = .ok (.getfield 31, 3) := by decide +kernel
theorem dX3_look_65 : decode cX3_look 65 = .ok (.aload_n 1, 1) := by decide +kernel
theorem dX3_look_66 : decode cX3_look 66 = .ok (.getfield 79, 3) := by decide +kernel
theorem dX3_look_69 : decode cX3_look 69 = .ok (.iload 4, 2) := by decide +kernel
theorem dX3_look_71 : decode cX3_look 71 = .ok (.iaload, 1) := by decide +kernel
theorem dX3_look_72 : decode cX3_look 72 = .ok (.iadd, 1) := by decide +kernel
theorem dX3_look_73 : decode cX3_look 73 = .ok (.putfield 31, 3) := by decide +kernel
theorem dX3_look_76 : decode cX3_look 76 = .ok (.aload_n 0, 1) := by decide +kernel
theorem dX3_look_77 : decode cX3_look 77 = .ok (.aload_n 0, 1) := by decide +kernel
theorem dX3_look_78 : decode cX3_look 78 = .ok (.getfield 34, 3) := by decide +kernel
theorem dX3_look_81 : decode cX3_look 81 = .ok (.aload_n 1, 1) := by decide +kernel
theorem dX3_look_82 : decode cX3_look 82 = .ok (.getfield 79, 3) := by decide +kernel
theorem dX3_look_85 : decode cX3_look 85 = .ok (.iload 4, 2) := by decide +kernel
theorem dX3_look_87 : decode cX3_look 87 = .ok (.iaload, 1) := by decide +kernel
theorem dX3_look_88 : decode cX3_look 88 = .ok (.invokestatic 82, 3) := by decide +kernel
theorem dX3_look_91 : decode cX3_look 91 = .ok (.putfield 34, 3) := by decide +kernel
theorem dX3_look_94 : decode cX3_look 94 = .ok (.iinc 4 1, 3) := by decide +kernel
theorem dX3_look_97 : decode cX3_look 97 = .ok (.goto (-71), 3) := by decide +kernel
theorem dX3_look_100 : decode cX3_look 100 = .ok (.aload_n 0, 1) := by decide +kernel
theorem dX3_look_101 : decode cX3_look 101 = .ok (.iload_n 3, 1) := by decide +kernel
theorem dX3_look_102 : decode cX3_look 102 = .ok (.invokestatic 67, 3) := by decide +kernel
theorem dX3_look_105 : decode cX3_look 105 = .ok (.putfield 28, 3) := by decide +kernel
theorem dX3_look_108 : decode cX3_look 108 = .ok (.return_, 1) := by decide +kernel
theorem dX3_readPart_0 : decode cX3_readPart 0 = .ok (.aload_n 0, 1) := by decide +kernel
theorem dX3_readPart_1 : decode cX3_readPart 1 = .ok (.invokevirtual 62, 3) := by decide +kernel
theorem dX3_readPart_4 : decode cX3_readPart 4 = .ok (.istore_n 3, 1) := by decide +kernel
theorem dX3_readPart_5 : decode cX3_readPart 5 = .ok (.iload_n 3, 1) := by decide +kernel
theorem dX3_readPart_6 : decode cX3_readPart 6 = .ok (.bipush 99, 2) := by decide +kernel
theorem dX3_readPart_8 : decode cX3_readPart 8 = .ok (.if_icmp .ne 7, 3) := by decide +kernel
theorem dX3_readPart_11 : decode cX3_readPart 11 = .ok (.iconst 1, 1) := by decide +kernel
theorem dX3_readPart_12 : decode cX3_readPart 12 = .ok (.goto 24, 3) := by decide +kernel
theorem dX3_readPart_15 : decode cX3_readPart 15 = .ok (.iload_n 3, 1) := by decide +kernel
theorem dX3_readPart_16 : decode cX3_readPart 16 = .ok (.bipush 115, 2) := by decide +kernel
theorem dX3_readPart_18 : decode cX3_readPart 18 = .ok (.if_icmp .ne 7, 3) := by decide +kernel
theorem dX3_readPart_21 : decode cX3_readPart 21 = .ok (.iconst 2, 1) := by decide +kernel
theorem dX3_readPart_22 : decode cX3_readPart 22 = .ok (.goto 14, 3) := by decide +kernel
theorem dX3_readPart_25 : decode cX3_readPart 25 = .ok (.iload_n 3, 1) := by decide +kernel
theorem dX3_readPart_26 : decode cX3_readPart 26 = .ok (.bipush 112, 2) := by decide +kernel
theorem dX3_readPart_28 : decode cX3_readPart 28 = .ok (.if_icmp .ne 7, 3) := by decide +kernel
theorem dX3_readPart_31 : decode cX3_readPart 31 = .ok (.iconst 4, 1) := by decide +kernel
theorem dX3_readPart_32 : decode cX3_readPart 32 = .ok (.goto 4, 3) := by decide +kernel
theorem dX3_readPart_35 : decode cX3_readPart 35 = .ok (.iconst 0, 1) := by decide +kernel
theorem dX3_readPart_36 : decode cX3_readPart 36 = .ok (.istore 4, 2) := by decide +kernel
theorem dX3_readPart_38 : decode cX3_readPart 38 = .ok (.iload 4, 2) := by decide +kernel
theorem dX3_readPart_40 : decode cX3_readPart 40 = .ok (.ifCond .eq 10, 3) := by decide +kernel
theorem dX3_readPart_43 : decode cX3_readPart 43 = .ok (.iload_n 2, 1) := by decide +kernel
theorem dX3_readPart_44 : decode cX3_readPart 44 = .ok (.iload 4, 2) := by decide +kernel
theorem dX3_readPart_46 : decode cX3_readPart 46 = .ok (.iand, 1) := by decide +kernel
theorem dX3_readPart_47 : decode cX3_readPart 47 = .ok (.ifCond .eq 13, 3) := by decide +kernel
theorem dX3_readPart_50 : decode cX3_readPart 50 = .ok (.aload_n 0, 1) := by decide +kernel
theorem dX3_readPart_51 : decode cX3_readPart 51 = .ok (.aload_n 0, 1) := by decide +kernel
theorem dX3_readPart_52 : decode cX3_readPart 52 = .ok (.getfield 19, 3) := by decide +kernel
theorem dX3_readPart_55 : decode cX3_readPart 55 = .ok (.putfield 22, 3) := by decide +kernel
theorem dX3_readPart_58 : decode cX3_readPart 58 = .ok (.iconst 0, 1) := by decide +kernel
theorem dX3_readPart_59 : decode cX3_readPart 59 = .ok (.ireturn, 1) := by decide +kernel
theorem dX3_readPart_60 : decode cX3_readPart 60 = .ok (.aload_n 0, 1) := by decide +kernel
theorem dX3_readPart_61 : decode cX3_readPart 61 = .ok (.dup, 1) := by decide +kernel
theorem dX3_readPart_62 : decode cX3_readPart 62 = .ok (.getfield 19, 3) := by decide +kernel
theorem dX3_readPart_65 : decode cX3_readPart 65 = .ok (.iconst 1, 1) := by decide +kernel
theorem dX3_readPart_66 : decode cX3_readPart 66 = .ok (.iadd, 1) := by decide +kernel
theorem dX3_readPart_67 : decode cX3_readPart 67 = .ok (.putfield 19, 3) := by decide +kernel
theorem dX3_readPart_70 : decode cX3_readPart 70 = .ok (.aload_n 0, 1) := by decide +kernel
theorem dX3_readPart_71 : decode cX3_readPart 71 = .ok (.invokevirtual 62, 3) := by decide +kernel
theorem dX3_readPart_74 : decode cX3_readPart 74 = .ok (.bipush 32, 2) := by decide +kernel
theorem dX3_readPart_76 : decode cX3_readPart 76 = .ok (.if_icmp .eq 13, 3) := by decide +kernel
theorem dX3_readPart_79 : decode cX3_readPart 79 = .ok (.aload_n 0, 1) := by decide +kernel
theorem dX3_readPart_80 : decode cX3_readPart 80 = .ok (.aload_n 0, 1) := by decide +kernel
theorem dX3_readPart_81 : decode cX3_readPart 81 = .ok (.getfield 19, 3) := by decide +kernel
theorem dX3_readPart_84 : decode cX3_readPart 84 = .ok (.putfield 22, 3) := by decide +kernel
theorem dX3_readPart_87 : decode cX3_readPart 87 = .ok (.iconst 0, 1) := by decide +kernel
theorem dX3_readPart_88 : decode cX3_readPart 88 = .ok (.ireturn, 1) := by decide +kernel
theorem dX3_readPart_89 : decode cX3_readPart 89 = .ok (.aload_n 0, 1) := by decide +kernel
theorem dX3_readPart_90 : decode cX3_readPart 90 = .ok (.dup, 1) := by decide +kernel
theorem dX3_readPart_91 : decode cX3_readPart 91 = .ok (.getfield 19, 3) := by decide +kernel
theorem dX3_readPart_94 : decode cX3_readPart 94 = .ok (.iconst 1, 1) := by decide +kernel
theorem dX3_readPart_95 : decode cX3_readPart 95 = .ok (.iadd, 1) := by decide +kernel
theorem dX3_readPart_96 : decode cX3_readPart 96 = .ok (.putfield 19, 3) := by decide +kernel
theorem dX3_readPart_99 : decode cX3_readPart 99 = .ok (.iload_n 3, 1) := by decide +kernel
theorem dX3_readPart_100 : decode cX3_readPart 100 = .ok (.bipush 99, 2) := by decide +kernel
theorem dX3_readPart_102 : decode cX3_readPart 102 = .ok (.if_icmp .ne 18, 3) := by decide +kernel
theorem dX3_readPart_105 : decode cX3_readPart 105 = .ok (.aload_n 1, 1) := by decide +kernel
theorem dX3_readPart_106 : decode cX3_readPart 106 = .ok (.aload_n 0, 1) := by decide +kernel
theorem dX3_readPart_107 : decode cX3_readPart 107 = .ok (.iconst 0, 1) := by decide +kernel
theorem dX3_readPart_108 : decode cX3_readPart 108 = .ok (.invokevirtual 88, 3) := by decide +kernel
theorem dX3_readPart_111 : decode cX3_readPart 111 = .ok (.invokestatic 91, 3) := by decide +kernel
theorem dX3_readPart_114 : decode cX3_readPart 114 = .ok (.putfield 49, 3) := by decide +kernel
theorem dX3_readPart_117 : decode cX3_readPart 117 = .ok (.goto 32, 3) := by decide +kernel
theorem dX3_readPart_120 : decode cX3_readPart 120 = .ok (.iload_n 3, 1) := by decide +kernel
theorem dX3_readPart_121 : decode cX3_readPart 121 = .ok (.bipush 115, 2) := by decide +kernel
theorem dX3_readPart_123 : decode cX3_readPart 123 = .ok (.if_icmp .ne 18, 3) := by decide +kernel
theorem dX3_readPart_126 : decode cX3_readPart 126 = .ok (.aload_n 1, 1) := by decide +kernel
theorem dX3_readPart_127 : decode cX3_readPart 127 = .ok (.aload_n 0, 1) := by decide +kernel
theorem dX3_readPart_128 : decode cX3_readPart 128 = .ok (.iconst 0, 1) := by decide +kernel
theorem dX3_readPart_129 : decode cX3_readPart 129 = .ok (.invokevirtual 88, 3) := by decide +kernel
theorem dX3_readPart_132 : decode cX3_readPart 132 = .ok (.invokestatic 91, 3) := by decide +kernel
theorem dX3_readPart_135 : decode cX3_readPart 135 = .ok (.putfield 52, 3) := by decide +kernel
theorem dX3_readPart_138 : decode cX3_readPart 138 = .ok (.goto 11, 3) := by decide +kernel
theorem dX3_readPart_141 : decode cX3_readPart 141 = .ok (.aload_n 1, 1) := by decide +kernel
theorem dX3_readPart_142 : decode cX3_readPart 142 = .ok (.aload_n 0, 1) := by decide +kernel
theorem dX3_readPart_143 : decode cX3_readPart 143 = .ok (.invokevirtual 94, 3) := by decide +kernel
theorem dX3_readPart_146 : decode cX3_readPart 146 = .ok (.putfield 55, 3) := by decide +kernel
theorem dX3_readPart_149 : decode cX3_readPart 149 = .ok (.iload 4, 2) := by decide +kernel
theorem dX3_readPart_151 : decode cX3_readPart 151 = .ok (.ireturn, 1) := by decide +kernel
theorem dX3_heldWithin_0 : decode cX3_heldWithin 0 = .ok (.iconst 1, 1) := by decide +kernel
theorem dX3_heldWithin_1 : decode cX3_heldWithin 1 = .ok (.iconst 4, 1) := by decide +kernel
theorem dX3_heldWithin_2 : decode cX3_heldWithin 2 = .ok (.iload_n 0, 1) := by decide +kernel
theorem dX3_heldWithin_3 : decode cX3_heldWithin 3 = .ok (.invokestatic 97, 3) := by decide +kernel
theorem dX3_heldWithin_6 : decode cX3_heldWithin 6 = .ok (.invokestatic 82, 3) := by decide +kernel
theorem dX3_heldWithin_9 : decode cX3_heldWithin 9 = .ok (.ireturn, 1) := by decide +kernel
theorem dX3_readWay_0 : decode cX3_readWay 0 = .ok (.aload_n 0, 1) := by decide +kernel
theorem dX3_readWay_1 : decode cX3_readWay 1 = .ok (.invokevirtual 62, 3) := by decide +kernel
theorem dX3_readWay_4 : decode cX3_readWay 4 = .ok (.bipush 48, 2) := by decide +kernel
theorem dX3_readWay_6 : decode cX3_readWay 6 = .ok (.isub, 1) := by decide +kernel
theorem dX3_readWay_7 : decode cX3_readWay 7 = .ok (.istore_n 1, 1) := by decide +kernel
theorem dX3_readWay_8 : decode cX3_readWay 8 = .ok (.iload_n 1, 1) := by decide +kernel
theorem dX3_readWay_9 : decode cX3_readWay 9 = .ok (.ifCond .lt 8, 3) := by decide +kernel
theorem dX3_readWay_12 : decode cX3_readWay 12 = .ok (.iload_n 1, 1) := by decide +kernel
theorem dX3_readWay_13 : decode cX3_readWay 13 = .ok (.iconst 2, 1) := by decide +kernel
theorem dX3_readWay_14 : decode cX3_readWay 14 = .ok (.if_icmp .le 13, 3) := by decide +kernel
theorem dX3_readWay_17 : decode cX3_readWay 17 = .ok (.aload_n 0, 1) := by decide +kernel
theorem dX3_readWay_18 : decode cX3_readWay 18 = .ok (.aload_n 0, 1) := by decide +kernel
theorem dX3_readWay_19 : decode cX3_readWay 19 = .ok (.getfield 19, 3) := by decide +kernel
theorem dX3_readWay_22 : decode cX3_readWay 22 = .ok (.putfield 22, 3) := by decide +kernel
theorem dX3_readWay_25 : decode cX3_readWay 25 = .ok (.iconst 0, 1) := by decide +kernel
theorem dX3_readWay_26 : decode cX3_readWay 26 = .ok (.ireturn, 1) := by decide +kernel
theorem dX3_readWay_27 : decode cX3_readWay 27 = .ok (.aload_n 0, 1) := by decide +kernel
theorem dX3_readWay_28 : decode cX3_readWay 28 = .ok (.dup, 1) := by decide +kernel
theorem dX3_readWay_29 : decode cX3_readWay 29 = .ok (.getfield 19, 3) := by decide +kernel
theorem dX3_readWay_32 : decode cX3_readWay 32 = .ok (.iconst 1, 1) := by decide +kernel
theorem dX3_readWay_33 : decode cX3_readWay 33 = .ok (.iadd, 1) := by decide +kernel
theorem dX3_readWay_34 : decode cX3_readWay 34 = .ok (.putfield 19, 3) := by decide +kernel
theorem dX3_readWay_37 : decode cX3_readWay 37 = .ok (.iload_n 1, 1) := by decide +kernel
theorem dX3_readWay_38 : decode cX3_readWay 38 = .ok (.ireturn, 1) := by decide +kernel
theorem dX3_readSum_0 : decode cX3_readSum 0 = .ok (.aload_n 0, 1) := by decide +kernel
theorem dX3_readSum_1 : decode cX3_readSum 1 = .ok (.iload_n 1, 1) := by decide +kernel
theorem dX3_readSum_2 : decode cX3_readSum 2 = .ok (.invokevirtual 100, 3) := by decide +kernel
theorem dX3_readSum_5 : decode cX3_readSum 5 = .ok (.istore_n 2, 1) := by decide +kernel
theorem dX3_readSum_6 : decode cX3_readSum 6 = .ok (.iconst 0, 1) := by decide +kernel
theorem dX3_readSum_7 : decode cX3_readSum 7 = .ok (.istore_n 3, 1) := by decide +kernel
theorem dX3_readSum_8 : decode cX3_readSum 8 = .ok (.iload_n 3, 1) := by decide +kernel
theorem dX3_readSum_9 : decode cX3_readSum 9 = .ok (.bipush 80, 2) := by decide +kernel
theorem dX3_readSum_11 : decode cX3_readSum 11 = .ok (.if_icmp .ge 76, 3) := by decide +kernel
theorem dX3_readSum_14 : decode cX3_readSum 14 = .ok (.aload_n 0, 1) := by decide +kernel
theorem dX3_readSum_15 : decode cX3_readSum 15 = .ok (.getfield 22, 3) := by decide +kernel
theorem dX3_readSum_18 : decode cX3_readSum 18 = .ok (.iconst (-1), 1) := by decide +kernel
theorem dX3_readSum_19 : decode cX3_readSum 19 = .ok (.if_icmp .ne 68, 3) := by decide +kernel
theorem dX3_readSum_22 : decode cX3_readSum 22 = .ok (.aload_n 0, 1) := by decide +kernel
theorem dX3_readSum_23 : decode cX3_readSum 23 = .ok (.invokevirtual 62, 3) := by decide +kernel
theorem dX3_readSum_26 : decode cX3_readSum 26 = .ok (.istore 4, 2) := by decide +kernel
theorem dX3_readSum_28 : decode cX3_readSum 28 = .ok (.iload 4, 2) := by decide +kernel
theorem dX3_readSum_30 : decode cX3_readSum 30 = .ok (.bipush 43, 2) := by decide +kernel
theorem dX3_readSum_32 : decode cX3_readSum 32 = .ok (.if_icmp .eq 13, 3) := by decide +kernel
theorem dX3_readSum_35 : decode cX3_readSum 35 = .ok (.iload 4, 2) := by decide +kernel
theorem dX3_readSum_37 : decode cX3_readSum 37 = .ok (.bipush 45, 2) := by decide +kernel
theorem dX3_readSum_39 : decode cX3_readSum 39 = .ok (.if_icmp .eq 6, 3) := by decide +kernel
theorem dX3_readSum_42 : decode cX3_readSum 42 = .ok (.goto 45, 3) := by decide +kernel
theorem dX3_readSum_45 : decode cX3_readSum 45 = .ok (.aload_n 0, 1) := by decide +kernel
theorem dX3_readSum_46 : decode cX3_readSum 46 = .ok (.dup, 1) := by decide +kernel
theorem dX3_readSum_47 : decode cX3_readSum 47 = .ok (.getfield 19, 3) := by decide +kernel
theorem dX3_readSum_50 : decode cX3_readSum 50 = .ok (.iconst 1, 1) := by decide +kernel
theorem dX3_readSum_51 : decode cX3_readSum 51 = .ok (.iadd, 1) := by decide +kernel
theorem dX3_readSum_52 : decode cX3_readSum 52 = .ok (.putfield 19, 3) := by decide +kernel
theorem dX3_readSum_55 : decode cX3_readSum 55 = .ok (.aload_n 0, 1) := by decide +kernel
theorem dX3_readSum_56 : decode cX3_readSum 56 = .ok (.iload_n 1, 1) := by decide +kernel
theorem dX3_readSum_57 : decode cX3_readSum 57 = .ok (.invokevirtual 100, 3) := by decide +kernel
theorem dX3_readSum_60 : decode cX3_readSum 60 = .ok (.istore 5, 2) := by decide +kernel
theorem dX3_readSum_62 : decode cX3_readSum 62 = .ok (.iload 4, 2) := by decide +kernel
theorem dX3_readSum_64 : decode cX3_readSum 64 = .ok (.bipush 43, 2) := by decide +kernel
theorem dX3_readSum_66 : decode cX3_readSum 66 = .ok (.if_icmp .ne 10, 3) := by decide +kernel
theorem dX3_readSum_69 : decode cX3_readSum 69 = .ok (.iload_n 2, 1) := by decide +kernel
theorem dX3_readSum_70 : decode cX3_readSum 70 = .ok (.iload 5, 2) := by decide +kernel
theorem dX3_readSum_72 : decode cX3_readSum 72 = .ok (.iadd, 1) := by decide +kernel
theorem dX3_readSum_73 : decode cX3_readSum 73 = .ok (.goto 7, 3) := by decide +kernel
theorem dX3_readSum_76 : decode cX3_readSum 76 = .ok (.iload_n 2, 1) := by decide +kernel
theorem dX3_readSum_77 : decode cX3_readSum 77 = .ok (.iload 5, 2) := by decide +kernel
theorem dX3_readSum_79 : decode cX3_readSum 79 = .ok (.isub, 1) := by decide +kernel
theorem dX3_readSum_80 : decode cX3_readSum 80 = .ok (.istore_n 2, 1) := by decide +kernel
theorem dX3_readSum_81 : decode cX3_readSum 81 = .ok (.iinc 3 1, 3) := by decide +kernel
theorem dX3_readSum_84 : decode cX3_readSum 84 = .ok (.goto (-76), 3) := by decide +kernel
theorem dX3_readSum_87 : decode cX3_readSum 87 = .ok (.iload_n 2, 1) := by decide +kernel
theorem dX3_readSum_88 : decode cX3_readSum 88 = .ok (.ireturn, 1) := by decide +kernel
theorem dX3_readProduct_0 : decode cX3_readProduct 0 = .ok (.aload_n 0, 1) := by decide +kernel
theorem dX3_readProduct_1 : decode cX3_readProduct 1 = .ok (.iload_n 1, 1) := by decide +kernel
theorem dX3_readProduct_2 : decode cX3_readProduct 2 = .ok (.invokevirtual 103, 3) := by decide +kernel
theorem dX3_readProduct_5 : decode cX3_readProduct 5 = .ok (.istore_n 2, 1) := by decide +kernel
theorem dX3_readProduct_6 : decode cX3_readProduct 6 = .ok (.iconst 0, 1) := by decide +kernel
theorem dX3_readProduct_7 : decode cX3_readProduct 7 = .ok (.istore_n 3, 1) := by decide +kernel
theorem dX3_readProduct_8 : decode cX3_readProduct 8 = .ok (.iload_n 3, 1) := by decide +kernel
theorem dX3_readProduct_9 : decode cX3_readProduct 9 = .ok (.bipush 80, 2) := by decide +kernel
theorem dX3_readProduct_11 : decode cX3_readProduct 11 = .ok (.if_icmp .ge 108, 3) := by decide +kernel
theorem dX3_readProduct_14 : decode cX3_readProduct 14 = .ok (.aload_n 0, 1) := by decide +kernel
theorem dX3_readProduct_15 : decode cX3_readProduct 15 = .ok (.getfield 22, 3) := by decide +kernel
theorem dX3_readProduct_18 : decode cX3_readProduct 18 = .ok (.iconst (-1), 1) := by decide +kernel
theorem dX3_readProduct_19 : decode cX3_readProduct 19 = .ok (.if_icmp .ne 100, 3) := by decide +kernel
theorem dX3_readProduct_22 : decode cX3_readProduct 22 = .ok (.aload_n 0, 1) := by decide +kernel
theorem dX3_readProduct_23 : decode cX3_readProduct 23 = .ok (.invokevirtual 62, 3) := by decide +kernel
theorem dX3_readProduct_26 : decode cX3_readProduct 26 = .ok (.istore 4, 2) := by decide +kernel
theorem dX3_readProduct_28 : decode cX3_readProduct 28 = .ok (.iload 4, 2) := by decide +kernel
theorem dX3_readProduct_30 : decode cX3_readProduct 30 = .ok (.bipush 42, 2) := by decide +kernel
theorem dX3_readProduct_32 : decode cX3_readProduct 32 = .ok (.if_icmp .eq 20, 3) := by decide +kernel
theorem dX3_readProduct_35 : decode cX3_readProduct 35 = .ok (.iload 4, 2) := by decide +kernel
theorem dX3_readProduct_37 : decode cX3_readProduct 37 = .ok (.bipush 47, 2) := by decide +kernel
theorem dX3_readProduct_39 : decode cX3_readProduct 39 = .ok (.if_icmp .eq 13, 3) := by decide +kernel
theorem dX3_readProduct_42 : decode cX3_readProduct 42 = .ok (.iload 4, 2) := by decide +kernel
theorem dX3_readProduct_44 : decode cX3_readProduct 44 = .ok (.bipush 37, 2) := by decide +kernel
theorem dX3_readProduct_46 : decode cX3_readProduct 46 = .ok (.if_icmp .eq 6, 3) := by decide +kernel
theorem dX3_readProduct_49 : decode cX3_readProduct 49 = .ok (.goto 70, 3) := by decide +kernel
theorem dX3_readProduct_52 : decode cX3_readProduct 52 = .ok (.aload_n 0, 1) := by decide +kernel
theorem dX3_readProduct_53 : decode cX3_readProduct 53 = .ok (.dup, 1) := by decide +kernel
theorem dX3_readProduct_54 : decode cX3_readProduct 54 = .ok (.getfield 19, 3) := by decide +kernel
theorem dX3_readProduct_57 : decode cX3_readProduct 57 = .ok (.iconst 1, 1) := by decide +kernel
theorem dX3_readProduct_58 : decode cX3_readProduct 58 = .ok (.iadd, 1) := by decide +kernel
theorem dX3_readProduct_59 : decode cX3_readProduct 59 = .ok (.putfield 19, 3) := by decide +kernel
theorem dX3_readProduct_62 : decode cX3_readProduct 62 = .ok (.aload_n 0, 1) := by decide +kernel
theorem dX3_readProduct_63 : decode cX3_readProduct 63 = .ok (.iload_n 1, 1) := by decide +kernel
theorem dX3_readProduct_64 : decode cX3_readProduct 64 = .ok (.invokevirtual 103, 3) := by decide +kernel
theorem dX3_readProduct_67 : decode cX3_readProduct 67 = .ok (.istore 5, 2) := by decide +kernel
theorem dX3_readProduct_69 : decode cX3_readProduct 69 = .ok (.iload 4, 2) := by decide +kernel
theorem dX3_readProduct_71 : decode cX3_readProduct 71 = .ok (.bipush 42, 2) := by decide +kernel
theorem dX3_readProduct_73 : decode cX3_readProduct 73 = .ok (.if_icmp .ne 11, 3) := by decide +kernel
theorem dX3_readProduct_76 : decode cX3_readProduct 76 = .ok (.iload_n 2, 1) := by decide +kernel
theorem dX3_readProduct_77 : decode cX3_readProduct 77 = .ok (.iload 5, 2) := by decide +kernel
theorem dX3_readProduct_79 : decode cX3_readProduct 79 = .ok (.imul, 1) := by decide +kernel
theorem dX3_readProduct_80 : decode cX3_readProduct 80 = .ok (.istore_n 2, 1) := by decide +kernel
theorem dX3_readProduct_81 : decode cX3_readProduct 81 = .ok (.goto 32, 3) := by decide +kernel
theorem dX3_readProduct_84 : decode cX3_readProduct 84 = .ok (.iload 5, 2) := by decide +kernel
theorem dX3_readProduct_86 : decode cX3_readProduct 86 = .ok (.ifCond .ne 8, 3) := by decide +kernel
theorem dX3_readProduct_89 : decode cX3_readProduct 89 = .ok (.iconst 0, 1) := by decide +kernel
theorem dX3_readProduct_90 : decode cX3_readProduct 90 = .ok (.istore_n 2, 1) := by decide +kernel
theorem dX3_readProduct_91 : decode cX3_readProduct 91 = .ok (.goto 22, 3) := by decide +kernel
theorem dX3_readProduct_94 : decode cX3_readProduct 94 = .ok (.iload 4, 2) := by decide +kernel
theorem dX3_readProduct_96 : decode cX3_readProduct 96 = .ok (.bipush 47, 2) := by decide +kernel
theorem dX3_readProduct_98 : decode cX3_readProduct 98 = .ok (.if_icmp .ne 10, 3) := by decide +kernel
theorem dX3_readProduct_101 : decode cX3_readProduct 101 = .ok (.iload_n 2, 1) := by decide +kernel
theorem dX3_readProduct_102 : decode cX3_readProduct 102 = .ok (.iload 5, 2) := by decide +kernel
theorem dX3_readProduct_104 : decode cX3_readProduct 104 = .ok (.idiv, 1) := by decide +kernel
theorem dX3_readProduct_105 : decode cX3_readProduct 105 = .ok (.goto 7, 3) := by decide +kernel
theorem dX3_readProduct_108 : decode cX3_readProduct 108 = .ok (.iload_n 2, 1) := by decide +kernel
theorem dX3_readProduct_109 : decode cX3_readProduct 109 = .ok (.iload 5, 2) := by decide +kernel
theorem dX3_readProduct_111 : decode cX3_readProduct 111 = .ok (.irem, 1) := by decide +kernel
theorem dX3_readProduct_112 : decode cX3_readProduct 112 = .ok (.istore_n 2, 1) := by decide +kernel
theorem dX3_readProduct_113 : decode cX3_readProduct 113 = .ok (.iinc 3 1, 3) := by decide +kernel
theorem dX3_readProduct_116 : decode cX3_readProduct 116 = .ok (.goto (-108), 3) := by decide +kernel
theorem dX3_readProduct_119 : decode cX3_readProduct 119 = .ok (.iload_n 2, 1) := by decide +kernel
theorem dX3_readProduct_120 : decode cX3_readProduct 120 = .ok (.ireturn, 1) := by decide +kernel
theorem dX3_readOperand_0 : decode cX3_readOperand 0 = .ok (.aload_n 0, 1) := by decide +kernel
theorem dX3_readOperand_1 : decode cX3_readOperand 1 = .ok (.invokevirtual 62, 3) := by decide +kernel
theorem dX3_readOperand_4 : decode cX3_readOperand 4 = .ok (.istore_n 2, 1) := by decide +kernel
end
section
theorem dX3_readOperand_5 : decode cX3_readOperand 5 = .ok (.iload_n 2, 1) := by decide +kernel
theorem dX3_readOperand_6 : decode cX3_readOperand 6 = .ok (.invokestatic 106, 3) := by decide +kernel
theorem dX3_readOperand_9 : decode cX3_readOperand 9 = .ok (.ifCond .eq 8, 3) := by decide +kernel
theorem dX3_readOperand_12 : decode cX3_readOperand 12 = .ok (.aload_n 0, 1) := by decide +kernel
theorem dX3_readOperand_13 : decode cX3_readOperand 13 = .ok (.invokevirtual 110, 3) := by decide +kernel
theorem dX3_readOperand_16 : decode cX3_readOperand 16 = .ok (.ireturn, 1) := by decide +kernel
theorem dX3_readOperand_17 : decode cX3_readOperand 17 = .ok (.iload_n 2, 1) := by decide +kernel
theorem dX3_readOperand_18 : decode cX3_readOperand 18 = .ok (.bipush 40, 2) := by decide +kernel
theorem dX3_readOperand_20 : decode cX3_readOperand 20 = .ok (.if_icmp .ne 14, 3) := by decide +kernel
theorem dX3_readOperand_23 : decode cX3_readOperand 23 = .ok (.iload_n 1, 1) := by decide +kernel
theorem dX3_readOperand_24 : decode cX3_readOperand 24 = .ok (.iconst 4, 1) := by decide +kernel
theorem dX3_readOperand_25 : decode cX3_readOperand 25 = .ok (.if_icmp .ge 9, 3) := by decide +kernel
theorem dX3_readOperand_28 : decode cX3_readOperand 28 = .ok (.aload_n 0, 1) := by decide +kernel
theorem dX3_readOperand_29 : decode cX3_readOperand 29 = .ok (.iload_n 1, 1) := by decide +kernel
theorem dX3_readOperand_30 : decode cX3_readOperand 30 = .ok (.invokevirtual 113, 3) := by decide +kernel
theorem dX3_readOperand_33 : decode cX3_readOperand 33 = .ok (.ireturn, 1) := by decide +kernel
theorem dX3_readOperand_34 : decode cX3_readOperand 34 = .ok (.iconst 0, 1) := by decide +kernel
theorem dX3_readOperand_35 : decode cX3_readOperand 35 = .ok (.istore_n 3, 1) := by decide +kernel
theorem dX3_readOperand_36 : decode cX3_readOperand 36 = .ok (.iload_n 2, 1) := by decide +kernel
theorem dX3_readOperand_37 : decode cX3_readOperand 37 = .ok (.lookupswitch 75 #[(110, 43), (116, 59), (117, 51), (120, 67)], 43) := by decide +kernel
theorem dX3_readOperand_80 : decode cX3_readOperand 80 = .ok (.aload_n 0, 1) := by decide +kernel
theorem dX3_readOperand_81 : decode cX3_readOperand 81 = .ok (.getfield 25, 3) := by decide +kernel
theorem dX3_readOperand_84 : decode cX3_readOperand 84 = .ok (.istore_n 3, 1) := by decide +kernel
theorem dX3_readOperand_85 : decode cX3_readOperand 85 = .ok (.goto 37, 3) := by decide +kernel
theorem dX3_readOperand_88 : decode cX3_readOperand 88 = .ok (.aload_n 0, 1) := by decide +kernel
theorem dX3_readOperand_89 : decode cX3_readOperand 89 = .ok (.getfield 28, 3) := by decide +kernel
theorem dX3_readOperand_92 : decode cX3_readOperand 92 = .ok (.istore_n 3, 1) := by decide +kernel
theorem dX3_readOperand_93 : decode cX3_readOperand 93 = .ok (.goto 29, 3) := by decide +kernel
theorem dX3_readOperand_96 : decode cX3_readOperand 96 = .ok (.aload_n 0, 1) := by decide +kernel
theorem dX3_readOperand_97 : decode cX3_readOperand 97 = .ok (.getfield 31, 3) := by decide +kernel
theorem dX3_readOperand_100 : decode cX3_readOperand 100 = .ok (.istore_n 3, 1) := by decide +kernel
theorem dX3_readOperand_101 : decode cX3_readOperand 101 = .ok (.goto 21, 3) := by decide +kernel
theorem dX3_readOperand_104 : decode cX3_readOperand 104 = .ok (.aload_n 0, 1) := by decide +kernel
theorem dX3_readOperand_105 : decode cX3_readOperand 105 = .ok (.getfield 34, 3) := by decide +kernel
theorem dX3_readOperand_108 : decode cX3_readOperand 108 = .ok (.istore_n 3, 1) := by decide +kernel
theorem dX3_readOperand_109 : decode cX3_readOperand 109 = .ok (.goto 13, 3) := by decide +kernel
theorem dX3_readOperand_112 : decode cX3_readOperand 112 = .ok (.aload_n 0, 1) := by decide +kernel
theorem dX3_readOperand_113 : decode cX3_readOperand 113 = .ok (.aload_n 0, 1) := by decide +kernel
theorem dX3_readOperand_114 : decode cX3_readOperand 114 = .ok (.getfield 19, 3) := by decide +kernel
theorem dX3_readOperand_117 : decode cX3_readOperand 117 = .ok (.putfield 22, 3) := by decide +kernel
theorem dX3_readOperand_120 : decode cX3_readOperand 120 = .ok (.iconst 0, 1) := by decide +kernel
theorem dX3_readOperand_121 : decode cX3_readOperand 121 = .ok (.ireturn, 1) := by decide +kernel
theorem dX3_readOperand_122 : decode cX3_readOperand 122 = .ok (.aload_n 0, 1) := by decide +kernel
theorem dX3_readOperand_123 : decode cX3_readOperand 123 = .ok (.dup, 1) := by decide +kernel
theorem dX3_readOperand_124 : decode cX3_readOperand 124 = .ok (.getfield 19, 3) := by decide +kernel
theorem dX3_readOperand_127 : decode cX3_readOperand 127 = .ok (.iconst 1, 1) := by decide +kernel
theorem dX3_readOperand_128 : decode cX3_readOperand 128 = .ok (.iadd, 1) := by decide +kernel
theorem dX3_readOperand_129 : decode cX3_readOperand 129 = .ok (.putfield 19, 3) := by decide +kernel
theorem dX3_readOperand_132 : decode cX3_readOperand 132 = .ok (.iload_n 3, 1) := by decide +kernel
theorem dX3_readOperand_133 : decode cX3_readOperand 133 = .ok (.ireturn, 1) := by decide +kernel
theorem dX3_readBracket_0 : decode cX3_readBracket 0 = .ok (.aload_n 0, 1) := by decide +kernel
theorem dX3_readBracket_1 : decode cX3_readBracket 1 = .ok (.dup, 1) := by decide +kernel
theorem dX3_readBracket_2 : decode cX3_readBracket 2 = .ok (.getfield 19, 3) := by decide +kernel
theorem dX3_readBracket_5 : decode cX3_readBracket 5 = .ok (.iconst 1, 1) := by decide +kernel
theorem dX3_readBracket_6 : decode cX3_readBracket 6 = .ok (.iadd, 1) := by decide +kernel
theorem dX3_readBracket_7 : decode cX3_readBracket 7 = .ok (.putfield 19, 3) := by decide +kernel
theorem dX3_readBracket_10 : decode cX3_readBracket 10 = .ok (.aload_n 0, 1) := by decide +kernel
theorem dX3_readBracket_11 : decode cX3_readBracket 11 = .ok (.iload_n 1, 1) := by decide +kernel
theorem dX3_readBracket_12 : decode cX3_readBracket 12 = .ok (.iconst 1, 1) := by decide +kernel
theorem dX3_readBracket_13 : decode cX3_readBracket 13 = .ok (.iadd, 1) := by decide +kernel
theorem dX3_readBracket_14 : decode cX3_readBracket 14 = .ok (.invokevirtual 88, 3) := by decide +kernel
theorem dX3_readBracket_17 : decode cX3_readBracket 17 = .ok (.istore_n 2, 1) := by decide +kernel
theorem dX3_readBracket_18 : decode cX3_readBracket 18 = .ok (.aload_n 0, 1) := by decide +kernel
theorem dX3_readBracket_19 : decode cX3_readBracket 19 = .ok (.getfield 22, 3) := by decide +kernel
theorem dX3_readBracket_22 : decode cX3_readBracket 22 = .ok (.iconst (-1), 1) := by decide +kernel
theorem dX3_readBracket_23 : decode cX3_readBracket 23 = .ok (.if_icmp .eq 5, 3) := by decide +kernel
theorem dX3_readBracket_26 : decode cX3_readBracket 26 = .ok (.iconst 0, 1) := by decide +kernel
theorem dX3_readBracket_27 : decode cX3_readBracket 27 = .ok (.ireturn, 1) := by decide +kernel
theorem dX3_readBracket_28 : decode cX3_readBracket 28 = .ok (.aload_n 0, 1) := by decide +kernel
theorem dX3_readBracket_29 : decode cX3_readBracket 29 = .ok (.invokevirtual 62, 3) := by decide +kernel
theorem dX3_readBracket_32 : decode cX3_readBracket 32 = .ok (.bipush 41, 2) := by decide +kernel
theorem dX3_readBracket_34 : decode cX3_readBracket 34 = .ok (.if_icmp .ne 16, 3) := by decide +kernel
theorem dX3_readBracket_37 : decode cX3_readBracket 37 = .ok (.aload_n 0, 1) := by decide +kernel
theorem dX3_readBracket_38 : decode cX3_readBracket 38 = .ok (.dup, 1) := by decide +kernel
theorem dX3_readBracket_39 : decode cX3_readBracket 39 = .ok (.getfield 19, 3) := by decide +kernel
theorem dX3_readBracket_42 : decode cX3_readBracket 42 = .ok (.iconst 1, 1) := by decide +kernel
theorem dX3_readBracket_43 : decode cX3_readBracket 43 = .ok (.iadd, 1) := by decide +kernel
theorem dX3_readBracket_44 : decode cX3_readBracket 44 = .ok (.putfield 19, 3) := by decide +kernel
theorem dX3_readBracket_47 : decode cX3_readBracket 47 = .ok (.goto 11, 3) := by decide +kernel
theorem dX3_readBracket_50 : decode cX3_readBracket 50 = .ok (.aload_n 0, 1) := by decide +kernel
theorem dX3_readBracket_51 : decode cX3_readBracket 51 = .ok (.aload_n 0, 1) := by decide +kernel
theorem dX3_readBracket_52 : decode cX3_readBracket 52 = .ok (.getfield 19, 3) := by decide +kernel
theorem dX3_readBracket_55 : decode cX3_readBracket 55 = .ok (.putfield 22, 3) := by decide +kernel
theorem dX3_readBracket_58 : decode cX3_readBracket 58 = .ok (.iload_n 2, 1) := by decide +kernel
theorem dX3_readBracket_59 : decode cX3_readBracket 59 = .ok (.ireturn, 1) := by decide +kernel
theorem dX3_readNumber_0 : decode cX3_readNumber 0 = .ok (.iconst 0, 1) := by decide +kernel
theorem dX3_readNumber_1 : decode cX3_readNumber 1 = .ok (.istore_n 1, 1) := by decide +kernel
theorem dX3_readNumber_2 : decode cX3_readNumber 2 = .ok (.iconst 0, 1) := by decide +kernel
theorem dX3_readNumber_3 : decode cX3_readNumber 3 = .ok (.istore_n 2, 1) := by decide +kernel
theorem dX3_readNumber_4 : decode cX3_readNumber 4 = .ok (.iload_n 2, 1) := by decide +kernel
theorem dX3_readNumber_5 : decode cX3_readNumber 5 = .ok (.iconst 3, 1) := by decide +kernel
theorem dX3_readNumber_6 : decode cX3_readNumber 6 = .ok (.if_icmp .ge 42, 3) := by decide +kernel
theorem dX3_readNumber_9 : decode cX3_readNumber 9 = .ok (.aload_n 0, 1) := by decide +kernel
theorem dX3_readNumber_10 : decode cX3_readNumber 10 = .ok (.invokevirtual 62, 3) := by decide +kernel
theorem dX3_readNumber_13 : decode cX3_readNumber 13 = .ok (.invokestatic 106, 3) := by decide +kernel
theorem dX3_readNumber_16 : decode cX3_readNumber 16 = .ok (.ifCond .eq 32, 3) := by decide +kernel
theorem dX3_readNumber_19 : decode cX3_readNumber 19 = .ok (.bipush 10, 2) := by decide +kernel
theorem dX3_readNumber_21 : decode cX3_readNumber 21 = .ok (.iload_n 1, 1) := by decide +kernel
theorem dX3_readNumber_22 : decode cX3_readNumber 22 = .ok (.imul, 1) := by decide +kernel
theorem dX3_readNumber_23 : decode cX3_readNumber 23 = .ok (.aload_n 0, 1) := by decide +kernel
theorem dX3_readNumber_24 : decode cX3_readNumber 24 = .ok (.invokevirtual 62, 3) := by decide +kernel
theorem dX3_readNumber_27 : decode cX3_readNumber 27 = .ok (.iadd, 1) := by decide +kernel
theorem dX3_readNumber_28 : decode cX3_readNumber 28 = .ok (.bipush 48, 2) := by decide +kernel
theorem dX3_readNumber_30 : decode cX3_readNumber 30 = .ok (.isub, 1) := by decide +kernel
theorem dX3_readNumber_31 : decode cX3_readNumber 31 = .ok (.istore_n 1, 1) := by decide +kernel
theorem dX3_readNumber_32 : decode cX3_readNumber 32 = .ok (.aload_n 0, 1) := by decide +kernel
theorem dX3_readNumber_33 : decode cX3_readNumber 33 = .ok (.dup, 1) := by decide +kernel
theorem dX3_readNumber_34 : decode cX3_readNumber 34 = .ok (.getfield 19, 3) := by decide +kernel
theorem dX3_readNumber_37 : decode cX3_readNumber 37 = .ok (.iconst 1, 1) := by decide +kernel
theorem dX3_readNumber_38 : decode cX3_readNumber 38 = .ok (.iadd, 1) := by decide +kernel
theorem dX3_readNumber_39 : decode cX3_readNumber 39 = .ok (.putfield 19, 3) := by decide +kernel
theorem dX3_readNumber_42 : decode cX3_readNumber 42 = .ok (.iinc 2 1, 3) := by decide +kernel
theorem dX3_readNumber_45 : decode cX3_readNumber 45 = .ok (.goto (-41), 3) := by decide +kernel
theorem dX3_readNumber_48 : decode cX3_readNumber 48 = .ok (.iload_n 1, 1) := by decide +kernel
theorem dX3_readNumber_49 : decode cX3_readNumber 49 = .ok (.ireturn, 1) := by decide +kernel
theorem dX3_isDigit_0 : decode cX3_isDigit 0 = .ok (.iload_n 0, 1) := by decide +kernel
theorem dX3_isDigit_1 : decode cX3_isDigit 1 = .ok (.bipush 48, 2) := by decide +kernel
theorem dX3_isDigit_3 : decode cX3_isDigit 3 = .ok (.if_icmp .lt 13, 3) := by decide +kernel
theorem dX3_isDigit_6 : decode cX3_isDigit 6 = .ok (.iload_n 0, 1) := by decide +kernel
theorem dX3_isDigit_7 : decode cX3_isDigit 7 = .ok (.bipush 57, 2) := by decide +kernel
theorem dX3_isDigit_9 : decode cX3_isDigit 9 = .ok (.if_icmp .gt 7, 3) := by decide +kernel
theorem dX3_isDigit_12 : decode cX3_isDigit 12 = .ok (.iconst 1, 1) := by decide +kernel
theorem dX3_isDigit_13 : decode cX3_isDigit 13 = .ok (.goto 4, 3) := by decide +kernel
theorem dX3_isDigit_16 : decode cX3_isDigit 16 = .ok (.iconst 0, 1) := by decide +kernel
theorem dX3_isDigit_17 : decode cX3_isDigit 17 = .ok (.ireturn, 1) := by decide +kernel
theorem dX3_sign_0 : decode cX3_sign 0 = .ok (.aload_n 0, 1) := by decide +kernel
theorem dX3_sign_1 : decode cX3_sign 1 = .ok (.getfield 19, 3) := by decide +kernel
theorem dX3_sign_4 : decode cX3_sign 4 = .ok (.ifCond .lt 42, 3) := by decide +kernel
theorem dX3_sign_7 : decode cX3_sign 7 = .ok (.aload_n 0, 1) := by decide +kernel
theorem dX3_sign_8 : decode cX3_sign 8 = .ok (.getfield 19, 3) := by decide +kernel
theorem dX3_sign_11 : decode cX3_sign 11 = .ok (.aload_n 0, 1) := by decide +kernel
theorem dX3_sign_12 : decode cX3_sign 12 = .ok (.getfield 15, 3) := by decide +kernel
theorem dX3_sign_15 : decode cX3_sign 15 = .ok (.if_icmp .ge 31, 3) := by decide +kernel
theorem dX3_sign_18 : decode cX3_sign 18 = .ok (.aload_n 0, 1) := by decide +kernel
theorem dX3_sign_19 : decode cX3_sign 19 = .ok (.getfield 19, 3) := by decide +kernel
theorem dX3_sign_22 : decode cX3_sign 22 = .ok (.aload_n 0, 1) := by decide +kernel
theorem dX3_sign_23 : decode cX3_sign 23 = .ok (.getfield 9, 3) := by decide +kernel
theorem dX3_sign_26 : decode cX3_sign 26 = .ok (.arraylength, 1) := by decide +kernel
theorem dX3_sign_27 : decode cX3_sign 27 = .ok (.if_icmp .ge 19, 3) := by decide +kernel
theorem dX3_sign_30 : decode cX3_sign 30 = .ok (.aload_n 0, 1) := by decide +kernel
theorem dX3_sign_31 : decode cX3_sign 31 = .ok (.getfield 9, 3) := by decide +kernel
theorem dX3_sign_34 : decode cX3_sign 34 = .ok (.aload_n 0, 1) := by decide +kernel
theorem dX3_sign_35 : decode cX3_sign 35 = .ok (.getfield 19, 3) := by decide +kernel
theorem dX3_sign_38 : decode cX3_sign 38 = .ok (.baload, 1) := by decide +kernel
theorem dX3_sign_39 : decode cX3_sign 39 = .ok (.sipush 255, 3) := by decide +kernel
theorem dX3_sign_42 : decode cX3_sign 42 = .ok (.iand, 1) := by decide +kernel
theorem dX3_sign_43 : decode cX3_sign 43 = .ok (.goto 4, 3) := by decide +kernel
theorem dX3_sign_46 : decode cX3_sign 46 = .ok (.iconst (-1), 1) := by decide +kernel
theorem dX3_sign_47 : decode cX3_sign 47 = .ok (.ireturn, 1) := by decide +kernel
theorem dX4_has_12 : decode cX4_has 12 = .ok (.iconst 1, 1) := by decide +kernel
theorem dX4_has_13 : decode cX4_has 13 = .ok (.goto 4, 3) := by decide +kernel
theorem dX4_find_0 : decode cX4_find 0 = .ok (.iconst 0, 1) := by decide +kernel
theorem dX4_find_1 : decode cX4_find 1 = .ok (.istore 4, 2) := by decide +kernel
theorem dX4_find_3 : decode cX4_find 3 = .ok (.iload 4, 2) := by decide +kernel
theorem dX4_find_5 : decode cX4_find 5 = .ok (.aload_n 0, 1) := by decide +kernel
theorem dX4_find_6 : decode cX4_find 6 = .ok (.getfield 24, 3) := by decide +kernel
theorem dX4_find_9 : decode cX4_find 9 = .ok (.if_icmp .ge 39, 3) := by decide +kernel
theorem dX4_find_12 : decode cX4_find 12 = .ok (.aload_n 0, 1) := by decide +kernel
theorem dX4_find_13 : decode cX4_find 13 = .ok (.getfield 16, 3) := by decide +kernel
theorem dX4_find_16 : decode cX4_find 16 = .ok (.iload 4, 2) := by decide +kernel
theorem dX4_find_18 : decode cX4_find 18 = .ok (.iaload, 1) := by decide +kernel
theorem dX4_find_19 : decode cX4_find 19 = .ok (.iload_n 3, 1) := by decide +kernel
theorem dX4_find_20 : decode cX4_find 20 = .ok (.if_icmp .ne 22, 3) := by decide +kernel
theorem dX4_find_23 : decode cX4_find 23 = .ok (.aload_n 0, 1) := by decide +kernel
theorem dX4_find_24 : decode cX4_find 24 = .ok (.getfield 11, 3) := by decide +kernel
theorem dX4_find_27 : decode cX4_find 27 = .ok (.iload 4, 2) := by decide +kernel
theorem dX4_find_29 : decode cX4_find 29 = .ok (.aaload, 1) := by decide +kernel
theorem dX4_find_30 : decode cX4_find 30 = .ok (.aload_n 1, 1) := by decide +kernel
theorem dX4_find_31 : decode cX4_find 31 = .ok (.iload_n 2, 1) := by decide +kernel
theorem dX4_find_32 : decode cX4_find 32 = .ok (.iload_n 3, 1) := by decide +kernel
theorem dX4_find_33 : decode cX4_find 33 = .ok (.invokestatic 28, 3) := by decide +kernel
theorem dX4_find_36 : decode cX4_find 36 = .ok (.ifCond .eq 6, 3) := by decide +kernel
theorem dX4_find_39 : decode cX4_find 39 = .ok (.iload 4, 2) := by decide +kernel
theorem dX4_find_41 : decode cX4_find 41 = .ok (.ireturn, 1) := by decide +kernel
theorem dX4_find_42 : decode cX4_find 42 = .ok (.iinc 4 1, 3) := by decide +kernel
theorem dX4_find_45 : decode cX4_find 45 = .ok (.goto (-42), 3) := by decide +kernel
theorem dX4_find_48 : decode cX4_find 48 = .ok (.iconst (-1), 1) := by decide +kernel
theorem dX4_find_49 : decode cX4_find 49 = .ok (.ireturn, 1) := by decide +kernel
theorem dX4_isAlike_0 : decode cX4_isAlike 0 = .ok (.iconst 0, 1) := by decide +kernel
theorem dX4_isAlike_1 : decode cX4_isAlike 1 = .ok (.istore 4, 2) := by decide +kernel
theorem dX4_isAlike_3 : decode cX4_isAlike 3 = .ok (.iload 4, 2) := by decide +kernel
theorem dX4_isAlike_5 : decode cX4_isAlike 5 = .ok (.iload_n 3, 1) := by decide +kernel
theorem dX4_isAlike_6 : decode cX4_isAlike 6 = .ok (.if_icmp .ge 24, 3) := by decide +kernel
theorem dX4_isAlike_9 : decode cX4_isAlike 9 = .ok (.aload_n 0, 1) := by decide +kernel
theorem dX4_isAlike_10 : decode cX4_isAlike 10 = .ok (.iload 4, 2) := by decide +kernel
theorem dX4_isAlike_12 : decode cX4_isAlike 12 = .ok (.baload, 1) := by decide +kernel
theorem dX4_isAlike_13 : decode cX4_isAlike 13 = .ok (.aload_n 1, 1) := by decide +kernel
theorem dX4_isAlike_14 : decode cX4_isAlike 14 = .ok (.iload_n 2, 1) := by decide +kernel
theorem dX4_isAlike_15 : decode cX4_isAlike 15 = .ok (.iload 4, 2) := by decide +kernel
theorem dX4_isAlike_17 : decode cX4_isAlike 17 = .ok (.iadd, 1) := by decide +kernel
theorem dX4_isAlike_18 : decode cX4_isAlike 18 = .ok (.baload, 1) := by decide +kernel
theorem dX4_isAlike_19 : decode cX4_isAlike 19 = .ok (.if_icmp .eq 5, 3) := by decide +kernel
theorem dX4_isAlike_22 : decode cX4_isAlike 22 = .ok (.iconst 0, 1) := by decide +kernel
theorem dX4_isAlike_23 : decode cX4_isAlike 23 = .ok (.ireturn, 1) := by decide +kernel
theorem dX4_isAlike_24 : decode cX4_isAlike 24 = .ok (.iinc 4 1, 3) := by decide +kernel
theorem dX4_isAlike_27 : decode cX4_isAlike 27 = .ok (.goto (-24), 3) := by decide +kernel
theorem dX4_isAlike_30 : decode cX4_isAlike 30 = .ok (.iconst 1, 1) := by decide +kernel
theorem dX4_isAlike_31 : decode cX4_isAlike 31 = .ok (.ireturn, 1) := by decide +kernel
theorem dX4_add_0 : decode cX4_add 0 = .ok (.aload_n 0, 1) := by decide +kernel
theorem dX4_add_1 : decode cX4_add 1 = .ok (.getfield 24, 3) := by decide +kernel
theorem dX4_add_4 : decode cX4_add 4 = .ok (.bipush 40, 2) := by decide +kernel
theorem dX4_add_6 : decode cX4_add 6 = .ok (.if_icmp .lt 5, 3) := by decide +kernel
theorem dX4_add_9 : decode cX4_add 9 = .ok (.iconst (-1), 1) := by decide +kernel
theorem dX4_add_10 : decode cX4_add 10 = .ok (.ireturn, 1) := by decide +kernel
theorem dX4_add_11 : decode cX4_add 11 = .ok (.aload_n 1, 1) := by decide +kernel
theorem dX4_add_12 : decode cX4_add 12 = .ok (.iload_n 2, 1) := by decide +kernel
theorem dX4_add_13 : decode cX4_add 13 = .ok (.aload_n 0, 1) := by decide +kernel
theorem dX4_add_14 : decode cX4_add 14 = .ok (.getfield 11, 3) := by decide +kernel
theorem dX4_add_17 : decode cX4_add 17 = .ok (.aload_n 0, 1) := by decide +kernel
theorem dX4_add_18 : decode cX4_add 18 = .ok (.getfield 24, 3) := by decide +kernel
theorem dX4_add_21 : decode cX4_add 21 = .ok (.aaload, 1) := by decide +kernel
theorem dX4_add_22 : decode cX4_add 22 = .ok (.iconst 0, 1) := by decide +kernel
theorem dX4_add_23 : decode cX4_add 23 = .ok (.iload_n 3, 1) := by decide +kernel
theorem dX4_add_24 : decode cX4_add 24 = .ok (.invokestatic 32, 3) := by decide +kernel
theorem dX4_add_27 : decode cX4_add 27 = .ok (.aload_n 0, 1) := by decide +kernel
theorem dX4_add_28 : decode cX4_add 28 = .ok (.getfield 16, 3) := by decide +kernel
theorem dX4_add_31 : decode cX4_add 31 = .ok (.aload_n 0, 1) := by decide +kernel
theorem dX4_add_32 : decode cX4_add 32 = .ok (.getfield 24, 3) := by decide +kernel
theorem dX4_add_35 : decode cX4_add 35 = .ok (.iload_n 3, 1) := by decide +kernel
theorem dX4_add_36 : decode cX4_add 36 = .ok (.iastore, 1) := by decide +kernel
theorem dX4_add_37 : decode cX4_add 37 = .ok (.aload_n 0, 1) := by decide +kernel
theorem dX4_add_38 : decode cX4_add 38 = .ok (.dup, 1) := by decide +kernel
theorem dX4_add_39 : decode cX4_add 39 = .ok (.getfield 24, 3) := by decide +kernel
theorem dX4_add_42 : decode cX4_add 42 = .ok (.iconst 1, 1) := by decide +kernel
theorem dX4_add_43 : decode cX4_add 43 = .ok (.iadd, 1) := by decide +kernel
theorem dX4_add_44 : decode cX4_add 44 = .ok (.putfield 24, 3) := by decide +kernel
theorem dX4_add_47 : decode cX4_add 47 = .ok (.aload_n 0, 1) := by decide +kernel
theorem dX4_add_48 : decode cX4_add 48 = .ok (.getfield 24, 3) := by decide +kernel
theorem dX4_add_51 : decode cX4_add 51 = .ok (.iconst 1, 1) := by decide +kernel
theorem dX4_add_52 : decode cX4_add 52 = .ok (.isub, 1) := by decide +kernel
theorem dX4_add_53 : decode cX4_add 53 = .ok (.ireturn, 1) := by decide +kernel
theorem dX4_placeOf_0 : decode cX4_placeOf 0 = .ok (.iload_n 2, 1) := by decide +kernel
theorem dX4_placeOf_1 : decode cX4_placeOf 1 = .ok (.istore_n 3, 1) := by decide +kernel
theorem dX4_placeOf_2 : decode cX4_placeOf 2 = .ok (.iconst 0, 1) := by decide +kernel
theorem dX4_placeOf_3 : decode cX4_placeOf 3 = .ok (.istore 4, 2) := by decide +kernel
theorem dX4_placeOf_5 : decode cX4_placeOf 5 = .ok (.iload 4, 2) := by decide +kernel
theorem dX4_placeOf_7 : decode cX4_placeOf 7 = .ok (.aload_n 0, 1) := by decide +kernel
theorem dX4_placeOf_8 : decode cX4_placeOf 8 = .ok (.getfield 16, 3) := by decide +kernel
theorem dX4_placeOf_11 : decode cX4_placeOf 11 = .ok (.iload_n 1, 1) := by decide +kernel
theorem dX4_placeOf_12 : decode cX4_placeOf 12 = .ok (.iaload, 1) := by decide +kernel
theorem dX4_placeOf_13 : decode cX4_placeOf 13 = .ok (.if_icmp .ge 28, 3) := by decide +kernel
theorem dX4_placeOf_16 : decode cX4_placeOf 16 = .ok (.iload_n 3, 1) := by decide +kernel
theorem dX4_placeOf_17 : decode cX4_placeOf 17 = .ok (.aload_n 0, 1) := by decide +kernel
theorem dX4_placeOf_18 : decode cX4_placeOf 18 = .ok (.getfield 11, 3) := by decide +kernel
theorem dX4_placeOf_21 : decode cX4_placeOf 21 = .ok (.iload_n 1, 1) := by decide +kernel
theorem dX4_placeOf_22 : decode cX4_placeOf 22 = .ok (.aaload, 1) := by decide +kernel
theorem dX4_placeOf_23 : decode cX4_placeOf 23 = .ok (.iload 4, 2) := by decide +kernel
theorem dX4_placeOf_25 : decode cX4_placeOf 25 = .ok (.baload, 1) := by decide +kernel
theorem dX4_placeOf_26 : decode cX4_placeOf 26 = .ok (.sipush 255, 3) := by decide +kernel
theorem dX4_placeOf_29 : decode cX4_placeOf 29 = .ok (.iand, 1) := by decide +kernel
theorem dX4_placeOf_30 : decode cX4_placeOf 30 = .ok (.ixor, 1) := by decide +kernel
theorem dX4_placeOf_31 : decode cX4_placeOf 31 = .ok (.ldc 38, 2) := by decide +kernel
theorem dX4_placeOf_33 : decode cX4_placeOf 33 = .ok (.imul, 1) := by decide +kernel
theorem dX4_placeOf_34 : decode cX4_placeOf 34 = .ok (.istore_n 3, 1) := by decide +kernel
theorem dX4_placeOf_35 : decode cX4_placeOf 35 = .ok (.iinc 4 1, 3) := by decide +kernel
theorem dX4_placeOf_38 : decode cX4_placeOf 38 = .ok (.goto (-33), 3) := by decide +kernel
theorem dX4_placeOf_41 : decode cX4_placeOf 41 = .ok (.iload_n 3, 1) := by decide +kernel
theorem dX4_placeOf_42 : decode cX4_placeOf 42 = .ok (.bipush 7, 2) := by decide +kernel
theorem dX4_placeOf_44 : decode cX4_placeOf 44 = .ok (.iushr, 1) := by decide +kernel
theorem dX4_placeOf_45 : decode cX4_placeOf 45 = .ok (.sipush 1000, 3) := by decide +kernel
theorem dX4_placeOf_48 : decode cX4_placeOf 48 = .ok (.irem, 1) := by decide +kernel
theorem dX4_placeOf_49 : decode cX4_placeOf 49 = .ok (.ireturn, 1) := by decide +kernel
theorem dX4_addFrom_0 : decode cX4_addFrom 0 = .ok (.iconst 0, 1) := by decide +kernel
theorem dX4_addFrom_1 : decode cX4_addFrom 1 = .ok (.istore 5, 2) := by decide +kernel
theorem dX4_addFrom_3 : decode cX4_addFrom 3 = .ok (.iload_n 3, 1) := by decide +kernel
theorem dX4_addFrom_4 : decode cX4_addFrom 4 = .ok (.istore 6, 2) := by decide +kernel
theorem dX4_addFrom_6 : decode cX4_addFrom 6 = .ok (.iconst 0, 1) := by decide +kernel
theorem dX4_addFrom_7 : decode cX4_addFrom 7 = .ok (.istore 7, 2) := by decide +kernel
theorem dX4_addFrom_9 : decode cX4_addFrom 9 = .ok (.iload 7, 2) := by decide +kernel
theorem dX4_addFrom_11 : decode cX4_addFrom 11 = .ok (.iload 4, 2) := by decide +kernel
theorem dX4_addFrom_13 : decode cX4_addFrom 13 = .ok (.if_icmp .ge 146, 3) := by decide +kernel
theorem dX4_addFrom_16 : decode cX4_addFrom 16 = .ok (.iload 6, 2) := by decide +kernel
theorem dX4_addFrom_18 : decode cX4_addFrom 18 = .ok (.ifCond .lt 9, 3) := by decide +kernel
theorem dX4_addFrom_21 : decode cX4_addFrom 21 = .ok (.iload 6, 2) := by decide +kernel
theorem dX4_addFrom_23 : decode cX4_addFrom 23 = .ok (.iload_n 2, 1) := by decide +kernel
theorem dX4_addFrom_24 : decode cX4_addFrom 24 = .ok (.if_icmp .lt 6, 3) := by decide +kernel
theorem dX4_addFrom_27 : decode cX4_addFrom 27 = .ok (.iload 5, 2) := by decide +kernel
theorem dX4_addFrom_29 : decode cX4_addFrom 29 = .ok (.ireturn, 1) := by decide +kernel
theorem dX4_addFrom_30 : decode cX4_addFrom 30 = .ok (.aload_n 1, 1) := by decide +kernel
theorem dX4_addFrom_31 : decode cX4_addFrom 31 = .ok (.iload 6, 2) := by decide +kernel
theorem dX4_addFrom_33 : decode cX4_addFrom 33 = .ok (.laload, 1) := by decide +kernel
theorem dX4_addFrom_34 : decode cX4_addFrom 34 = .ok (.lstore 8, 2) := by decide +kernel
theorem dX4_addFrom_36 : decode cX4_addFrom 36 = .ok (.lload 8, 2) := by decide +kernel
theorem dX4_addFrom_38 : decode cX4_addFrom 38 = .ok (.lconst 1, 1) := by decide +kernel
theorem dX4_addFrom_39 : decode cX4_addFrom 39 = .ok (.lcmp, 1) := by decide +kernel
theorem dX4_addFrom_40 : decode cX4_addFrom 40 = .ok (.ifCond .lt 23, 3) := by decide +kernel
theorem dX4_addFrom_43 : decode cX4_addFrom 43 = .ok (.lload 8, 2) := by decide +kernel
theorem dX4_addFrom_45 : decode cX4_addFrom 45 = .ok (.ldc2_w 39, 3) := by decide +kernel
theorem dX4_addFrom_48 : decode cX4_addFrom 48 = .ok (.lcmp, 1) := by decide +kernel
theorem dX4_addFrom_49 : decode cX4_addFrom 49 = .ok (.ifCond .gt 14, 3) := by decide +kernel
theorem dX4_addFrom_52 : decode cX4_addFrom 52 = .ok (.lload 8, 2) := by decide +kernel
theorem dX4_addFrom_54 : decode cX4_addFrom 54 = .ok (.iload_n 2, 1) := by decide +kernel
theorem dX4_addFrom_55 : decode cX4_addFrom 55 = .ok (.iload 6, 2) := by decide +kernel
theorem dX4_addFrom_57 : decode cX4_addFrom 57 = .ok (.isub, 1) := by decide +kernel
theorem dX4_addFrom_58 : decode cX4_addFrom 58 = .ok (.i2l, 1) := by decide +kernel
theorem dX4_addFrom_59 : decode cX4_addFrom 59 = .ok (.lcmp, 1) := by decide +kernel
theorem dX4_addFrom_60 : decode cX4_addFrom 60 = .ok (.ifCond .lt 6, 3) := by decide +kernel
theorem dX4_addFrom_63 : decode cX4_addFrom 63 = .ok (.iload 5, 2) := by decide +kernel
theorem dX4_addFrom_65 : decode cX4_addFrom 65 = .ok (.ireturn, 1) := by decide +kernel
theorem dX4_addFrom_66 : decode cX4_addFrom 66 = .ok (.lload 8, 2) := by decide +kernel
theorem dX4_addFrom_68 : decode cX4_addFrom 68 = .ok (.l2i, 1) := by decide +kernel
theorem dX4_addFrom_69 : decode cX4_addFrom 69 = .ok (.istore 10, 2) := by decide +kernel
theorem dX4_addFrom_71 : decode cX4_addFrom 71 = .ok (.iconst 0, 1) := by decide +kernel
theorem dX4_addFrom_72 : decode cX4_addFrom 72 = .ok (.istore 11, 2) := by decide +kernel
theorem dX4_addFrom_74 : decode cX4_addFrom 74 = .ok (.iload 11, 2) := by decide +kernel
theorem dX4_addFrom_76 : decode cX4_addFrom 76 = .ok (.iload 10, 2) := by decide +kernel
theorem dX4_addFrom_78 : decode cX4_addFrom 78 = .ok (.if_icmp .ge 27, 3) := by decide +kernel
theorem dX4_addFrom_81 : decode cX4_addFrom 81 = .ok (.aload_n 0, 1) := by decide +kernel
theorem dX4_addFrom_82 : decode cX4_addFrom 82 = .ok (.getfield 20, 3) := by decide +kernel
theorem dX4_addFrom_85 : decode cX4_addFrom 85 = .ok (.iload 11, 2) := by decide +kernel
theorem dX4_addFrom_87 : decode cX4_addFrom 87 = .ok (.aload_n 1, 1) := by decide +kernel
theorem dX4_addFrom_88 : decode cX4_addFrom 88 = .ok (.iload 6, 2) := by decide +kernel
theorem dX4_addFrom_90 : decode cX4_addFrom 90 = .ok (.iconst 1, 1) := by decide +kernel
theorem dX4_addFrom_91 : decode cX4_addFrom 91 = .ok (.iadd, 1) := by decide +kernel
theorem dX4_addFrom_92 : decode cX4_addFrom 92 = .ok (.iload 11, 2) := by decide +kernel
theorem dX4_addFrom_94 : decode cX4_addFrom 94 = .ok (.iadd, 1) := by decide +kernel
theorem dX4_addFrom_95 : decode cX4_addFrom 95 = .ok (.laload, 1) := by decide +kernel
theorem dX4_addFrom_96 : decode cX4_addFrom 96 = .ok (.l2i, 1) := by decide +kernel
theorem dX4_addFrom_97 : decode cX4_addFrom 97 = .ok (.i2b, 1) := by decide +kernel
theorem dX4_addFrom_98 : decode cX4_addFrom 98 = .ok (.bastore, 1) := by decide +kernel
theorem dX4_addFrom_99 : decode cX4_addFrom 99 = .ok (.iinc 11 1, 3) := by decide +kernel
theorem dX4_addFrom_102 : decode cX4_addFrom 102 = .ok (.goto (-28), 3) := by decide +kernel
theorem dX4_addFrom_105 : decode cX4_addFrom 105 = .ok (.iload 6, 2) := by decide +kernel
theorem dX4_addFrom_107 : decode cX4_addFrom 107 = .ok (.iconst 1, 1) := by decide +kernel
theorem dX4_addFrom_108 : decode cX4_addFrom 108 = .ok (.iload 10, 2) := by decide +kernel
theorem dX4_addFrom_110 : decode cX4_addFrom 110 = .ok (.iadd, 1) := by decide +kernel
theorem dX4_addFrom_111 : decode cX4_addFrom 111 = .ok (.iadd, 1) := by decide +kernel
theorem dX4_addFrom_112 : decode cX4_addFrom 112 = .ok (.istore 6, 2) := by decide +kernel
theorem dX4_addFrom_114 : decode cX4_addFrom 114 = .ok (.aload_n 0, 1) := by decide +kernel
theorem dX4_addFrom_115 : decode cX4_addFrom 115 = .ok (.aload_n 0, 1) := by decide +kernel
theorem dX4_addFrom_116 : decode cX4_addFrom 116 = .ok (.getfield 20, 3) := by decide +kernel
theorem dX4_addFrom_119 : decode cX4_addFrom 119 = .ok (.iconst 0, 1) := by decide +kernel
theorem dX4_addFrom_120 : decode cX4_addFrom 120 = .ok (.iload 10, 2) := by decide +kernel
theorem dX4_addFrom_122 : decode cX4_addFrom 122 = .ok (.invokevirtual 41, 3) := by decide +kernel
theorem dX4_addFrom_125 : decode cX4_addFrom 125 = .ok (.iconst (-1), 1) := by decide +kernel
theorem dX4_addFrom_126 : decode cX4_addFrom 126 = .ok (.if_icmp .eq 6, 3) := by decide +kernel
theorem dX4_addFrom_129 : decode cX4_addFrom 129 = .ok (.goto 24, 3) := by decide +kernel
theorem dX4_addFrom_132 : decode cX4_addFrom 132 = .ok (.aload_n 0, 1) := by decide +kernel
theorem dX4_addFrom_133 : decode cX4_addFrom 133 = .ok (.aload_n 0, 1) := by decide +kernel
theorem dX4_addFrom_134 : decode cX4_addFrom 134 = .ok (.getfield 20, 3) := by decide +kernel
theorem dX4_addFrom_137 : decode cX4_addFrom 137 = .ok (.iconst 0, 1) := by decide +kernel
theorem dX4_addFrom_138 : decode cX4_addFrom 138 = .ok (.iload 10, 2) := by decide +kernel
theorem dX4_addFrom_140 : decode cX4_addFrom 140 = .ok (.invokevirtual 45, 3) := by decide +kernel
theorem dX4_addFrom_143 : decode cX4_addFrom 143 = .ok (.iconst (-1), 1) := by decide +kernel
theorem dX4_addFrom_144 : decode cX4_addFrom 144 = .ok (.if_icmp .ne 6, 3) := by decide +kernel
theorem dX4_addFrom_147 : decode cX4_addFrom 147 = .ok (.iload 5, 2) := by decide +kernel
theorem dX4_addFrom_149 : decode cX4_addFrom 149 = .ok (.ireturn, 1) := by decide +kernel
theorem dX4_addFrom_150 : decode cX4_addFrom 150 = .ok (.iinc 5 1, 3) := by decide +kernel
theorem dX4_addFrom_153 : decode cX4_addFrom 153 = .ok (.iinc 7 1, 3) := by decide +kernel
theorem dX4_addFrom_156 : decode cX4_addFrom 156 = .ok (.goto (-147), 3) := by decide +kernel
theorem dX4_addFrom_159 : decode cX4_addFrom 159 = .ok (.iload 5, 2) := by decide +kernel
theorem dX4_addFrom_161 : decode cX4_addFrom 161 = .ok (.ireturn, 1) := by decide +kernel
theorem dX5_isTold_0 : decode cX5_isTold 0 = .ok (.iconst 0, 1) := by decide +kernel
theorem dX5_isTold_1 : decode cX5_isTold 1 = .ok (.istore_n 2, 1) := by decide +kernel
theorem dX5_isTold_2 : decode cX5_isTold 2 = .ok (.iload_n 2, 1) := by decide +kernel
theorem dX5_isTold_3 : decode cX5_isTold 3 = .ok (.aload_n 0, 1) := by decide +kernel
theorem dX5_isTold_4 : decode cX5_isTold 4 = .ok (.getfield 15, 3) := by decide +kernel
theorem dX5_isTold_7 : decode cX5_isTold 7 = .ok (.if_icmp .ge 21, 3) := by decide +kernel
theorem dX5_isTold_10 : decode cX5_isTold 10 = .ok (.aload_n 0, 1) := by decide +kernel
theorem dX5_isTold_11 : decode cX5_isTold 11 = .ok (.getfield 9, 3) := by decide +kernel
theorem dX5_isTold_14 : decode cX5_isTold 14 = .ok (.iload_n 2, 1) := by decide +kernel
theorem dX5_isTold_15 : decode cX5_isTold 15 = .ok (.iaload, 1) := by decide +kernel
theorem dX5_isTold_16 : decode cX5_isTold 16 = .ok (.iload_n 1, 1) := by decide +kernel
theorem dX5_isTold_17 : decode cX5_isTold 17 = .ok (.if_icmp .ne 5, 3) := by decide +kernel
theorem dX5_isTold_20 : decode cX5_isTold 20 = .ok (.iconst 1, 1) := by decide +kernel
theorem dX5_isTold_21 : decode cX5_isTold 21 = .ok (.ireturn, 1) := by decide +kernel
theorem dX5_isTold_22 : decode cX5_isTold 22 = .ok (.iinc 2 1, 3) := by decide +kernel
theorem dX5_isTold_25 : decode cX5_isTold 25 = .ok (.goto (-23), 3) := by decide +kernel
theorem dX5_isTold_28 : decode cX5_isTold 28 = .ok (.iconst 0, 1) := by decide +kernel
theorem dX5_isTold_29 : decode cX5_isTold 29 = .ok (.ireturn, 1) := by decide +kernel
theorem dX5_leastFrom_0 : decode cX5_leastFrom 0 = .ok (.iconst 1, 1) := by decide +kernel
theorem dX5_leastFrom_1 : decode cX5_leastFrom 1 = .ok (.aload_n 0, 1) := by decide +kernel
theorem dX5_leastFrom_2 : decode cX5_leastFrom 2 = .ok (.getfield 15, 3) := by decide +kernel
theorem dX5_leastFrom_5 : decode cX5_leastFrom 5 = .ok (.ishl, 1) := by decide +kernel
theorem dX5_leastFrom_6 : decode cX5_leastFrom 6 = .ok (.iconst 1, 1) := by decide +kernel
theorem dX5_leastFrom_7 : decode cX5_leastFrom 7 = .ok (.isub, 1) := by decide +kernel
theorem dX5_leastFrom_8 : decode cX5_leastFrom 8 = .ok (.istore_n 3, 1) := by decide +kernel
theorem dX5_leastFrom_9 : decode cX5_leastFrom 9 = .ok (.iload_n 3, 1) := by decide +kernel
theorem dX5_leastFrom_10 : decode cX5_leastFrom 10 = .ok (.istore 4, 2) := by decide +kernel
theorem dX5_leastFrom_12 : decode cX5_leastFrom 12 = .ok (.iload 4, 2) := by decide +kernel
theorem dX5_leastFrom_14 : decode cX5_leastFrom 14 = .ok (.ifCond .lt 54, 3) := by decide +kernel
theorem dX5_leastFrom_17 : decode cX5_leastFrom 17 = .ok (.aload_n 0, 1) := by decide +kernel
theorem dX5_leastFrom_18 : decode cX5_leastFrom 18 = .ok (.aload_n 1, 1) := by decide +kernel
theorem dX5_leastFrom_19 : decode cX5_leastFrom 19 = .ok (.aload_n 2, 1) := by decide +kernel
theorem dX5_leastFrom_20 : decode cX5_leastFrom 20 = .ok (.iload 4, 2) := by decide +kernel
theorem dX5_leastFrom_22 : decode cX5_leastFrom 22 = .ok (.invokevirtual 49, 3) := by decide +kernel
theorem dX5_leastFrom_25 : decode cX5_leastFrom 25 = .ok (.ifCond .eq 29, 3) := by decide +kernel
theorem dX5_leastFrom_28 : decode cX5_leastFrom 28 = .ok (.aload_n 0, 1) := by decide +kernel
theorem dX5_leastFrom_29 : decode cX5_leastFrom 29 = .ok (.getfield 30, 3) := by decide +kernel
theorem dX5_leastFrom_32 : decode cX5_leastFrom 32 = .ok (.iload 4, 2) := by decide +kernel
theorem dX5_leastFrom_34 : decode cX5_leastFrom 34 = .ok (.iload 4, 2) := by decide +kernel
theorem dX5_leastFrom_36 : decode cX5_leastFrom 36 = .ok (.iload_n 3, 1) := by decide +kernel
theorem dX5_leastFrom_37 : decode cX5_leastFrom 37 = .ok (.if_icmp .ne 7, 3) := by decide +kernel
theorem dX5_leastFrom_40 : decode cX5_leastFrom 40 = .ok (.iconst 0, 1) := by decide +kernel
theorem dX5_leastFrom_41 : decode cX5_leastFrom 41 = .ok (.goto 9, 3) := by decide +kernel
theorem dX5_leastFrom_44 : decode cX5_leastFrom 44 = .ok (.aload_n 0, 1) := by decide +kernel
theorem dX5_leastFrom_45 : decode cX5_leastFrom 45 = .ok (.iload 4, 2) := by decide +kernel
theorem dX5_leastFrom_47 : decode cX5_leastFrom 47 = .ok (.invokevirtual 53, 3) := by decide +kernel
theorem dX5_leastFrom_50 : decode cX5_leastFrom 50 = .ok (.iastore, 1) := by decide +kernel
theorem dX5_leastFrom_51 : decode cX5_leastFrom 51 = .ok (.goto 11, 3) := by decide +kernel
theorem dX5_leastFrom_54 : decode cX5_leastFrom 54 = .ok (.aload_n 0, 1) := by decide +kernel
theorem dX5_leastFrom_55 : decode cX5_leastFrom 55 = .ok (.getfield 30, 3) := by decide +kernel
theorem dX5_leastFrom_58 : decode cX5_leastFrom 58 = .ok (.iload 4, 2) := by decide +kernel
theorem dX5_leastFrom_60 : decode cX5_leastFrom 60 = .ok (.iconst (-1), 1) := by decide +kernel
theorem dX5_leastFrom_61 : decode cX5_leastFrom 61 = .ok (.iastore, 1) := by decide +kernel
theorem dX5_leastFrom_62 : decode cX5_leastFrom 62 = .ok (.iinc 4 (-1), 3) := by decide +kernel
theorem dX5_leastFrom_65 : decode cX5_leastFrom 65 = .ok (.goto (-53), 3) := by decide +kernel
theorem dX5_leastFrom_68 : decode cX5_leastFrom 68 = .ok (.aload_n 0, 1) := by decide +kernel
theorem dX5_leastFrom_69 : decode cX5_leastFrom 69 = .ok (.getfield 30, 3) := by decide +kernel
theorem dX5_leastFrom_72 : decode cX5_leastFrom 72 = .ok (.iconst 0, 1) := by decide +kernel
theorem dX5_leastFrom_73 : decode cX5_leastFrom 73 = .ok (.iaload, 1) := by decide +kernel
theorem dX5_leastFrom_74 : decode cX5_leastFrom 74 = .ok (.iconst (-1), 1) := by decide +kernel
theorem dX5_leastFrom_75 : decode cX5_leastFrom 75 = .ok (.if_icmp .ne 5, 3) := by decide +kernel
theorem dX5_leastFrom_78 : decode cX5_leastFrom 78 = .ok (.iconst (-1), 1) := by decide +kernel
theorem dX5_leastFrom_79 : decode cX5_leastFrom 79 = .ok (.ireturn, 1) := by decide +kernel
theorem dX5_leastFrom_80 : decode cX5_leastFrom 80 = .ok (.aload_n 0, 1) := by decide +kernel
theorem dX5_leastFrom_81 : decode cX5_leastFrom 81 = .ok (.iload_n 3, 1) := by decide +kernel
theorem dX5_leastFrom_82 : decode cX5_leastFrom 82 = .ok (.invokevirtual 57, 3) := by decide +kernel
theorem dX5_leastFrom_85 : decode cX5_leastFrom 85 = .ok (.aload_n 0, 1) := by decide +kernel
theorem dX5_leastFrom_86 : decode cX5_leastFrom 86 = .ok (.iconst 0, 1) := by decide +kernel
theorem dX5_leastFrom_87 : decode cX5_leastFrom 87 = .ok (.putfield 15, 3) := by decide +kernel
theorem dX5_leastFrom_90 : decode cX5_leastFrom 90 = .ok (.aload_n 0, 1) := by decide +kernel
theorem dX5_leastFrom_91 : decode cX5_leastFrom 91 = .ok (.getfield 30, 3) := by decide +kernel
theorem dX5_leastFrom_94 : decode cX5_leastFrom 94 = .ok (.iconst 0, 1) := by decide +kernel
theorem dX5_leastFrom_95 : decode cX5_leastFrom 95 = .ok (.iaload, 1) := by decide +kernel
theorem dX5_leastFrom_96 : decode cX5_leastFrom 96 = .ok (.ireturn, 1) := by decide +kernel
theorem dX5_seatSet_0 : decode cX5_seatSet 0 = .ok (.aload_n 2, 1) := by decide +kernel
theorem dX5_seatSet_1 : decode cX5_seatSet 1 = .ok (.aload_n 1, 1) := by decide +kernel
theorem dX5_seatSet_2 : decode cX5_seatSet 2 = .ok (.invokevirtual 61, 3) := by decide +kernel
theorem dX5_seatSet_5 : decode cX5_seatSet 5 = .ok (.iconst 0, 1) := by decide +kernel
theorem dX5_seatSet_6 : decode cX5_seatSet 6 = .ok (.istore 4, 2) := by decide +kernel
theorem dX5_seatSet_8 : decode cX5_seatSet 8 = .ok (.iload 4, 2) := by decide +kernel
theorem dX5_seatSet_10 : decode cX5_seatSet 10 = .ok (.aload_n 0, 1) := by decide +kernel
theorem dX5_seatSet_11 : decode cX5_seatSet 11 = .ok (.getfield 15, 3) := by decide +kernel
theorem dX5_seatSet_14 : decode cX5_seatSet 14 = .ok (.if_icmp .ge 76, 3) := by decide +kernel
theorem dX5_seatSet_17 : decode cX5_seatSet 17 = .ok (.iload_n 3, 1) := by decide +kernel
theorem dX5_seatSet_18 : decode cX5_seatSet 18 = .ok (.iload 4, 2) := by decide +kernel
theorem dX5_seatSet_20 : decode cX5_seatSet 20 = .ok (.ishr, 1) := by decide +kernel
theorem dX5_seatSet_21 : decode cX5_seatSet 21 = .ok (.iconst 1, 1) := by decide +kernel
theorem dX5_seatSet_22 : decode cX5_seatSet 22 = .ok (.iand, 1) := by decide +kernel
theorem dX5_seatSet_23 : decode cX5_seatSet 23 = .ok (.ifCond .ne 6, 3) := by decide +kernel
theorem dX5_seatSet_26 : decode cX5_seatSet 26 = .ok (.goto 58, 3) := by decide +kernel
theorem dX5_seatSet_29 : decode cX5_seatSet 29 = .ok (.aload_n 0, 1) := by decide +kernel
theorem dX5_seatSet_30 : decode cX5_seatSet 30 = .ok (.getfield 9, 3) := by decide +kernel
theorem dX5_seatSet_33 : decode cX5_seatSet 33 = .ok (.iload 4, 2) := by decide +kernel
theorem dX5_seatSet_35 : decode cX5_seatSet 35 = .ok (.iaload, 1) := by decide +kernel
theorem dX5_seatSet_36 : decode cX5_seatSet 36 = .ok (.istore 5, 2) := by decide +kernel
theorem dX5_seatSet_38 : decode cX5_seatSet 38 = .ok (.aload_n 2, 1) := by decide +kernel
theorem dX5_seatSet_39 : decode cX5_seatSet 39 = .ok (.dup, 1) := by decide +kernel
theorem dX5_seatSet_40 : decode cX5_seatSet 40 = .ok (.getfield 67, 3) := by decide +kernel
theorem dX5_seatSet_43 : decode cX5_seatSet 43 = .ok (.iconst 1, 1) := by decide +kernel
theorem dX5_seatSet_44 : decode cX5_seatSet 44 = .ok (.iload 5, 2) := by decide +kernel
theorem dX5_seatSet_46 : decode cX5_seatSet 46 = .ok (.ishl, 1) := by decide +kernel
theorem dX5_seatSet_47 : decode cX5_seatSet 47 = .ok (.ixor, 1) := by decide +kernel
theorem dX5_seatSet_48 : decode cX5_seatSet 48 = .ok (.putfield 67, 3) := by decide +kernel
theorem dX5_seatSet_51 : decode cX5_seatSet 51 = .ok (.aload_n 2, 1) := by decide +kernel
theorem dX5_seatSet_52 : decode cX5_seatSet 52 = .ok (.getfield 70, 3) := by decide +kernel
theorem dX5_seatSet_55 : decode cX5_seatSet 55 = .ok (.iload 5, 2) := by decide +kernel
theorem dX5_seatSet_57 : decode cX5_seatSet 57 = .ok (.aload_n 2, 1) := by decide +kernel
theorem dX5_seatSet_58 : decode cX5_seatSet 58 = .ok (.getfield 67, 3) := by decide +kernel
theorem dX5_seatSet_61 : decode cX5_seatSet 61 = .ok (.iload 5, 2) := by decide +kernel
theorem dX5_seatSet_63 : decode cX5_seatSet 63 = .ok (.ishr, 1) := by decide +kernel
theorem dX5_seatSet_64 : decode cX5_seatSet 64 = .ok (.iconst 1, 1) := by decide +kernel
theorem dX5_seatSet_65 : decode cX5_seatSet 65 = .ok (.iand, 1) := by decide +kernel
theorem dX5_seatSet_66 : decode cX5_seatSet 66 = .ok (.iconst 1, 1) := by decide +kernel
theorem dX5_seatSet_67 : decode cX5_seatSet 67 = .ok (.if_icmp .ne 15, 3) := by decide +kernel
theorem dX5_seatSet_70 : decode cX5_seatSet 70 = .ok (.aload_n 0, 1) := by decide +kernel
theorem dX5_seatSet_71 : decode cX5_seatSet 71 = .ok (.getfield 33, 3) := by decide +kernel
theorem dX5_seatSet_74 : decode cX5_seatSet 74 = .ok (.iload 5, 2) := by decide +kernel
theorem dX5_seatSet_76 : decode cX5_seatSet 76 = .ok (.invokevirtual 73, 3) := by decide +kernel
theorem dX5_seatSet_79 : decode cX5_seatSet 79 = .ok (.goto 4, 3) := by decide +kernel
theorem dX5_seatSet_82 : decode cX5_seatSet 82 = .ok (.iconst 0, 1) := by decide +kernel
theorem dX5_seatSet_83 : decode cX5_seatSet 83 = .ok (.iastore, 1) := by decide +kernel
theorem dX5_seatSet_84 : decode cX5_seatSet 84 = .ok (.iinc 4 1, 3) := by decide +kernel
theorem dX5_seatSet_87 : decode cX5_seatSet 87 = .ok (.goto (-79), 3) := by decide +kernel
theorem dX5_seatSet_90 : decode cX5_seatSet 90 = .ok (.aload_n 2, 1) := by decide +kernel
theorem dX5_seatSet_91 : decode cX5_seatSet 91 = .ok (.getfield 67, 3) := by decide +kernel
theorem dX5_seatSet_94 : decode cX5_seatSet 94 = .ok (.ifCond .ne 5, 3) := by decide +kernel
theorem dX5_seatSet_97 : decode cX5_seatSet 97 = .ok (.iconst 0, 1) := by decide +kernel
theorem dX5_seatSet_98 : decode cX5_seatSet 98 = .ok (.ireturn, 1) := by decide +kernel
theorem dX5_seatSet_99 : decode cX5_seatSet 99 = .ok (.aload_n 0, 1) := by decide +kernel
theorem dX5_seatSet_100 : decode cX5_seatSet 100 = .ok (.getfield 45, 3) := by decide +kernel
theorem dX5_seatSet_103 : decode cX5_seatSet 103 = .ok (.aload_n 2, 1) := by decide +kernel
theorem dX5_seatSet_104 : decode cX5_seatSet 104 = .ok (.aload_n 0, 1) := by decide +kernel
theorem dX5_seatSet_105 : decode cX5_seatSet 105 = .ok (.getfield 33, 3) := by decide +kernel
theorem dX5_seatSet_108 : decode cX5_seatSet 108 = .ok (.invokevirtual 78, 3) := by decide +kernel
theorem dX5_seatSet_111 : decode cX5_seatSet 111 = .ok (.pop, 1) := by decide +kernel
theorem dX5_seatSet_112 : decode cX5_seatSet 112 = .ok (.aload_n 2, 1) := by decide +kernel
theorem dX5_seatSet_113 : decode cX5_seatSet 113 = .ok (.aload_n 1, 1) := by decide +kernel
theorem dX5_seatSet_114 : decode cX5_seatSet 114 = .ok (.getfield 84, 3) := by decide +kernel
theorem dX5_seatSet_117 : decode cX5_seatSet 117 = .ok (.invokevirtual 87, 3) := by decide +kernel
theorem dX5_seatSet_120 : decode cX5_seatSet 120 = .ok (.iconst 0, 1) := by decide +kernel
theorem dX5_seatSet_121 : decode cX5_seatSet 121 = .ok (.istore 4, 2) := by decide +kernel
theorem dX5_seatSet_123 : decode cX5_seatSet 123 = .ok (.iload 4, 2) := by decide +kernel
theorem dX5_seatSet_125 : decode cX5_seatSet 125 = .ok (.aload_n 0, 1) := by decide +kernel
theorem dX5_seatSet_126 : decode cX5_seatSet 126 = .ok (.getfield 37, 3) := by decide +kernel
theorem dX5_seatSet_129 : decode cX5_seatSet 129 = .ok (.getfield 90, 3) := by decide +kernel
theorem dX5_seatSet_132 : decode cX5_seatSet 132 = .ok (.if_icmp .ge 46, 3) := by decide +kernel
theorem dX5_seatSet_135 : decode cX5_seatSet 135 = .ok (.aload_n 0, 1) := by decide +kernel
theorem dX5_seatSet_136 : decode cX5_seatSet 136 = .ok (.getfield 41, 3) := by decide +kernel
theorem dX5_seatSet_139 : decode cX5_seatSet 139 = .ok (.aload_n 2, 1) := by decide +kernel
theorem dX5_seatSet_140 : decode cX5_seatSet 140 = .ok (.aload_n 0, 1) := by decide +kernel
theorem dX5_seatSet_141 : decode cX5_seatSet 141 = .ok (.getfield 37, 3) := by decide +kernel
theorem dX5_seatSet_144 : decode cX5_seatSet 144 = .ok (.iload 4, 2) := by decide +kernel
theorem dX5_seatSet_146 : decode cX5_seatSet 146 = .ok (.aload_n 2, 1) := by decide +kernel
theorem dX5_seatSet_147 : decode cX5_seatSet 147 = .ok (.getfield 84, 3) := by decide +kernel
theorem dX5_seatSet_150 : decode cX5_seatSet 150 = .ok (.invokevirtual 95, 3) := by decide +kernel
theorem dX5_seatSet_153 : decode cX5_seatSet 153 = .ok (.invokevirtual 99, 3) := by decide +kernel
theorem dX5_seatSet_156 : decode cX5_seatSet 156 = .ok (.aload_n 0, 1) := by decide +kernel
theorem dX5_seatSet_157 : decode cX5_seatSet 157 = .ok (.getfield 27, 3) := by decide +kernel
theorem dX5_seatSet_160 : decode cX5_seatSet 160 = .ok (.iload_n 3, 1) := by decide +kernel
theorem dX5_seatSet_161 : decode cX5_seatSet 161 = .ok (.aaload, 1) := by decide +kernel
theorem dX5_seatSet_162 : decode cX5_seatSet 162 = .ok (.iload 4, 2) := by decide +kernel
theorem dX5_seatSet_164 : decode cX5_seatSet 164 = .ok (.aload_n 0, 1) := by decide +kernel
theorem dX5_seatSet_165 : decode cX5_seatSet 165 = .ok (.getfield 41, 3) := by decide +kernel
theorem dX5_seatSet_168 : decode cX5_seatSet 168 = .ok (.getfield 105, 3) := by decide +kernel
theorem dX5_seatSet_171 : decode cX5_seatSet 171 = .ok (.iastore, 1) := by decide +kernel
theorem dX5_seatSet_172 : decode cX5_seatSet 172 = .ok (.iinc 4 1, 3) := by decide +kernel
theorem dX5_seatSet_175 : decode cX5_seatSet 175 = .ok (.goto (-52), 3) := by decide +kernel
theorem dX5_seatSet_178 : decode cX5_seatSet 178 = .ok (.iconst 1, 1) := by decide +kernel
theorem dX5_seatSet_179 : decode cX5_seatSet 179 = .ok (.ireturn, 1) := by decide +kernel
theorem dX5_leastOnward_0 : decode cX5_leastOnward 0 = .ok (.iconst (-1), 1) := by decide +kernel
theorem dX5_leastOnward_1 : decode cX5_leastOnward 1 = .ok (.istore_n 2, 1) := by decide +kernel
theorem dX5_leastOnward_2 : decode cX5_leastOnward 2 = .ok (.iconst 0, 1) := by decide +kernel
theorem dX5_leastOnward_3 : decode cX5_leastOnward 3 = .ok (.istore_n 3, 1) := by decide +kernel
theorem dX5_leastOnward_4 : decode cX5_leastOnward 4 = .ok (.iload_n 3, 1) := by decide +kernel
theorem dX5_leastOnward_5 : decode cX5_leastOnward 5 = .ok (.aload_n 0, 1) := by decide +kernel
theorem dX5_leastOnward_6 : decode cX5_leastOnward 6 = .ok (.getfield 15, 3) := by decide +kernel
theorem dX5_leastOnward_9 : decode cX5_leastOnward 9 = .ok (.if_icmp .ge 37, 3) := by decide +kernel
theorem dX5_leastOnward_12 : decode cX5_leastOnward 12 = .ok (.aload_n 0, 1) := by decide +kernel
theorem dX5_leastOnward_13 : decode cX5_leastOnward 13 = .ok (.iload_n 1, 1) := by decide +kernel
theorem dX5_leastOnward_14 : decode cX5_leastOnward 14 = .ok (.iload_n 3, 1) := by decide +kernel
theorem dX5_leastOnward_15 : decode cX5_leastOnward 15 = .ok (.invokevirtual 108, 3) := by decide +kernel
theorem dX5_leastOnward_18 : decode cX5_leastOnward 18 = .ok (.istore 4, 2) := by decide +kernel
theorem dX5_leastOnward_20 : decode cX5_leastOnward 20 = .ok (.iload 4, 2) := by decide +kernel
theorem dX5_leastOnward_22 : decode cX5_leastOnward 22 = .ok (.iconst (-1), 1) := by decide +kernel
theorem dX5_leastOnward_23 : decode cX5_leastOnward 23 = .ok (.if_icmp .eq 17, 3) := by decide +kernel
theorem dX5_leastOnward_26 : decode cX5_leastOnward 26 = .ok (.iload_n 2, 1) := by decide +kernel
theorem dX5_leastOnward_27 : decode cX5_leastOnward 27 = .ok (.iconst (-1), 1) := by decide +kernel
theorem dX5_leastOnward_28 : decode cX5_leastOnward 28 = .ok (.if_icmp .eq 9, 3) := by decide +kernel
theorem dX5_leastOnward_31 : decode cX5_leastOnward 31 = .ok (.iload 4, 2) := by decide +kernel
theorem dX5_leastOnward_33 : decode cX5_leastOnward 33 = .ok (.iload_n 2, 1) := by decide +kernel
theorem dX5_leastOnward_34 : decode cX5_leastOnward 34 = .ok (.if_icmp .ge 6, 3) := by decide +kernel
theorem dX5_leastOnward_37 : decode cX5_leastOnward 37 = .ok (.iload 4, 2) := by decide +kernel
theorem dX5_leastOnward_39 : decode cX5_leastOnward 39 = .ok (.istore_n 2, 1) := by decide +kernel
theorem dX5_leastOnward_40 : decode cX5_leastOnward 40 = .ok (.iinc 3 1, 3) := by decide +kernel
theorem dX5_leastOnward_43 : decode cX5_leastOnward 43 = .ok (.goto (-39), 3) := by decide +kernel
theorem dX5_leastOnward_46 : decode cX5_leastOnward 46 = .ok (.iload_n 2, 1) := by decide +kernel
theorem dX5_leastOnward_47 : decode cX5_leastOnward 47 = .ok (.ireturn, 1) := by decide +kernel
theorem dX5_sumOver_0 : decode cX5_sumOver 0 = .ok (.iload_n 1, 1) := by decide +kernel
theorem dX5_sumOver_1 : decode cX5_sumOver 1 = .ok (.iconst 1, 1) := by decide +kernel
theorem dX5_sumOver_2 : decode cX5_sumOver 2 = .ok (.iload_n 2, 1) := by decide +kernel
theorem dX5_sumOver_3 : decode cX5_sumOver 3 = .ok (.ishl, 1) := by decide +kernel
theorem dX5_sumOver_4 : decode cX5_sumOver 4 = .ok (.ior, 1) := by decide +kernel
theorem dX5_sumOver_5 : decode cX5_sumOver 5 = .ok (.istore_n 3, 1) := by decide +kernel
theorem dX5_sumOver_6 : decode cX5_sumOver 6 = .ok (.iload_n 3, 1) := by decide +kernel
theorem dX5_sumOver_7 : decode cX5_sumOver 7 = .ok (.iload_n 1, 1) := by decide +kernel
theorem dX5_sumOver_8 : decode cX5_sumOver 8 = .ok (.if_icmp .eq 13, 3) := by decide +kernel
theorem dX5_sumOver_11 : decode cX5_sumOver 11 = .ok (.aload_n 0, 1) := by decide +kernel
theorem dX5_sumOver_12 : decode cX5_sumOver 12 = .ok (.getfield 30, 3) := by decide +kernel
theorem dX5_sumOver_15 : decode cX5_sumOver 15 = .ok (.iload_n 3, 1) := by decide +kernel
theorem dX5_sumOver_16 : decode cX5_sumOver 16 = .ok (.iaload, 1) := by decide +kernel
theorem dX5_sumOver_17 : decode cX5_sumOver 17 = .ok (.iconst (-1), 1) := by decide +kernel
theorem dX5_sumOver_18 : decode cX5_sumOver 18 = .ok (.if_icmp .ne 5, 3) := by decide +kernel
theorem dX5_sumOver_21 : decode cX5_sumOver 21 = .ok (.iconst (-1), 1) := by decide +kernel
theorem dX5_sumOver_22 : decode cX5_sumOver 22 = .ok (.ireturn, 1) := by decide +kernel
theorem dX5_sumOver_23 : decode cX5_sumOver 23 = .ok (.iconst 0, 1) := by decide +kernel
theorem dX5_sumOver_24 : decode cX5_sumOver 24 = .ok (.istore 4, 2) := by decide +kernel
theorem dX5_sumOver_26 : decode cX5_sumOver 26 = .ok (.iconst 0, 1) := by decide +kernel
theorem dX5_sumOver_27 : decode cX5_sumOver 27 = .ok (.istore 5, 2) := by decide +kernel
theorem dX5_sumOver_29 : decode cX5_sumOver 29 = .ok (.iload 5, 2) := by decide +kernel
theorem dX5_sumOver_31 : decode cX5_sumOver 31 = .ok (.aload_n 0, 1) := by decide +kernel
theorem dX5_sumOver_32 : decode cX5_sumOver 32 = .ok (.getfield 37, 3) := by decide +kernel
theorem dX5_sumOver_35 : decode cX5_sumOver 35 = .ok (.getfield 90, 3) := by decide +kernel
theorem dX5_sumOver_38 : decode cX5_sumOver 38 = .ok (.if_icmp .ge 38, 3) := by decide +kernel
theorem dX5_sumOver_41 : decode cX5_sumOver 41 = .ok (.iload 4, 2) := by decide +kernel
theorem dX5_sumOver_43 : decode cX5_sumOver 43 = .ok (.aload_n 0, 1) := by decide +kernel
theorem dX5_sumOver_44 : decode cX5_sumOver 44 = .ok (.getfield 27, 3) := by decide +kernel
theorem dX5_sumOver_47 : decode cX5_sumOver 47 = .ok (.iload_n 3, 1) := by decide +kernel
theorem dX5_sumOver_48 : decode cX5_sumOver 48 = .ok (.aaload, 1) := by decide +kernel
theorem dX5_sumOver_49 : decode cX5_sumOver 49 = .ok (.iload 5, 2) := by decide +kernel
theorem dX5_sumOver_51 : decode cX5_sumOver 51 = .ok (.iaload, 1) := by decide +kernel
theorem dX5_sumOver_52 : decode cX5_sumOver 52 = .ok (.aload_n 0, 1) := by decide +kernel
theorem dX5_sumOver_53 : decode cX5_sumOver 53 = .ok (.getfield 27, 3) := by decide +kernel
theorem dX5_sumOver_56 : decode cX5_sumOver 56 = .ok (.iload_n 1, 1) := by decide +kernel
theorem dX5_sumOver_57 : decode cX5_sumOver 57 = .ok (.aaload, 1) := by decide +kernel
theorem dX5_sumOver_58 : decode cX5_sumOver 58 = .ok (.iload 5, 2) := by decide +kernel
theorem dX5_sumOver_60 : decode cX5_sumOver 60 = .ok (.iaload, 1) := by decide +kernel
theorem dX5_sumOver_61 : decode cX5_sumOver 61 = .ok (.iconst (-1), 1) := by decide +kernel
theorem dX5_sumOver_62 : decode cX5_sumOver 62 = .ok (.ixor, 1) := by decide +kernel
theorem dX5_sumOver_63 : decode cX5_sumOver 63 = .ok (.iand, 1) := by decide +kernel
theorem dX5_sumOver_64 : decode cX5_sumOver 64 = .ok (.invokestatic 111, 3) := by decide +kernel
theorem dX5_sumOver_67 : decode cX5_sumOver 67 = .ok (.iadd, 1) := by decide +kernel
theorem dX5_sumOver_68 : decode cX5_sumOver 68 = .ok (.istore 4, 2) := by decide +kernel
theorem dX5_sumOver_70 : decode cX5_sumOver 70 = .ok (.iinc 5 1, 3) := by decide +kernel
theorem dX5_sumOver_73 : decode cX5_sumOver 73 = .ok (.goto (-44), 3) := by decide +kernel
theorem dX5_sumOver_76 : decode cX5_sumOver 76 = .ok (.iload 4, 2) := by decide +kernel
theorem dX5_sumOver_78 : decode cX5_sumOver 78 = .ok (.aload_n 0, 1) := by decide +kernel
theorem dX5_sumOver_79 : decode cX5_sumOver 79 = .ok (.getfield 30, 3) := by decide +kernel
theorem dX5_sumOver_82 : decode cX5_sumOver 82 = .ok (.iload_n 3, 1) := by decide +kernel
theorem dX5_sumOver_83 : decode cX5_sumOver 83 = .ok (.iaload, 1) := by decide +kernel
theorem dX5_sumOver_84 : decode cX5_sumOver 84 = .ok (.iadd, 1) := by decide +kernel
theorem dX5_sumOver_85 : decode cX5_sumOver 85 = .ok (.ireturn, 1) := by decide +kernel
theorem dX5_walk_0 : decode cX5_walk 0 = .ok (.iconst 0, 1) := by decide +kernel
theorem dX5_walk_1 : decode cX5_walk 1 = .ok (.istore_n 2, 1) := by decide +kernel
theorem dX5_walk_2 : decode cX5_walk 2 = .ok (.aload_n 0, 1) := by decide +kernel
theorem dX5_walk_3 : decode cX5_walk 3 = .ok (.iconst 0, 1) := by decide +kernel
theorem dX5_walk_4 : decode cX5_walk 4 = .ok (.putfield 22, 3) := by decide +kernel
theorem dX5_walk_7 : decode cX5_walk 7 = .ok (.iconst 0, 1) := by decide +kernel
theorem dX5_walk_8 : decode cX5_walk 8 = .ok (.istore_n 3, 1) := by decide +kernel
theorem dX5_walk_9 : decode cX5_walk 9 = .ok (.iload_n 3, 1) := by decide +kernel
theorem dX5_walk_10 : decode cX5_walk 10 = .ok (.aload_n 0, 1) := by decide +kernel
theorem dX5_walk_11 : decode cX5_walk 11 = .ok (.getfield 15, 3) := by decide +kernel
theorem dX5_walk_14 : decode cX5_walk 14 = .ok (.if_icmp .ge 49, 3) := by decide +kernel
theorem dX5_walk_17 : decode cX5_walk 17 = .ok (.iload_n 2, 1) := by decide +kernel
theorem dX5_walk_18 : decode cX5_walk 18 = .ok (.iload_n 1, 1) := by decide +kernel
theorem dX5_walk_19 : decode cX5_walk 19 = .ok (.if_icmp .eq 44, 3) := by decide +kernel
theorem dX5_walk_22 : decode cX5_walk 22 = .ok (.aload_n 0, 1) := by decide +kernel
theorem dX5_walk_23 : decode cX5_walk 23 = .ok (.iload_n 2, 1) := by decide +kernel
theorem dX5_walk_24 : decode cX5_walk 24 = .ok (.invokevirtual 116, 3) := by decide +kernel
theorem dX5_walk_27 : decode cX5_walk 27 = .ok (.istore 4, 2) := by decide +kernel
theorem dX5_walk_29 : decode cX5_walk 29 = .ok (.aload_n 0, 1) := by decide +kernel
theorem dX5_walk_30 : decode cX5_walk 30 = .ok (.getfield 19, 3) := by decide +kernel
theorem dX5_walk_33 : decode cX5_walk 33 = .ok (.aload_n 0, 1) := by decide +kernel
theorem dX5_walk_34 : decode cX5_walk 34 = .ok (.getfield 22, 3) := by decide +kernel
theorem dX5_walk_37 : decode cX5_walk 37 = .ok (.iload 4, 2) := by decide +kernel
theorem dX5_walk_39 : decode cX5_walk 39 = .ok (.iastore, 1) := by decide +kernel
theorem dX5_walk_40 : decode cX5_walk 40 = .ok (.aload_n 0, 1) := by decide +kernel
theorem dX5_walk_41 : decode cX5_walk 41 = .ok (.dup, 1) := by decide +kernel
theorem dX5_walk_42 : decode cX5_walk 42 = .ok (.getfield 22, 3) := by decide +kernel
theorem dX5_walk_45 : decode cX5_walk 45 = .ok (.iconst 1, 1) := by decide +kernel
theorem dX5_walk_46 : decode cX5_walk 46 = .ok (.iadd, 1) := by decide +kernel
theorem dX5_walk_47 : decode cX5_walk 47 = .ok (.putfield 22, 3) := by decide +kernel
theorem dX5_walk_50 : decode cX5_walk 50 = .ok (.iload_n 2, 1) := by decide +kernel
theorem dX5_walk_51 : decode cX5_walk 51 = .ok (.iconst 1, 1) := by decide +kernel
theorem dX5_walk_52 : decode cX5_walk 52 = .ok (.iload 4, 2) := by decide +kernel
theorem dX5_walk_54 : decode cX5_walk 54 = .ok (.ishl, 1) := by decide +kernel
theorem dX5_walk_55 : decode cX5_walk 55 = .ok (.ior, 1) := by decide +kernel
theorem dX5_walk_56 : decode cX5_walk 56 = .ok (.istore_n 2, 1) := by decide +kernel
theorem dX5_walk_57 : decode cX5_walk 57 = .ok (.iinc 3 1, 3) := by decide +kernel
theorem dX5_walk_60 : decode cX5_walk 60 = .ok (.goto (-51), 3) := by decide +kernel
theorem dX5_walk_63 : decode cX5_walk 63 = .ok (.return_, 1) := by decide +kernel
theorem dX5_nextOf_0 : decode cX5_nextOf 0 = .ok (.iconst 0, 1) := by decide +kernel
theorem dX5_nextOf_1 : decode cX5_nextOf 1 = .ok (.istore_n 2, 1) := by decide +kernel
theorem dX5_nextOf_2 : decode cX5_nextOf 2 = .ok (.iload_n 2, 1) := by decide +kernel
theorem dX5_nextOf_3 : decode cX5_nextOf 3 = .ok (.aload_n 0, 1) := by decide +kernel
theorem dX5_nextOf_4 : decode cX5_nextOf 4 = .ok (.getfield 15, 3) := by decide +kernel
theorem dX5_nextOf_7 : decode cX5_nextOf 7 = .ok (.if_icmp .ge 36, 3) := by decide +kernel
theorem dX5_nextOf_10 : decode cX5_nextOf 10 = .ok (.aload_n 0, 1) := by decide +kernel
theorem dX5_nextOf_11 : decode cX5_nextOf 11 = .ok (.iload_n 1, 1) := by decide +kernel
theorem dX5_nextOf_12 : decode cX5_nextOf 12 = .ok (.iload_n 2, 1) := by decide +kernel
theorem dX5_nextOf_13 : decode cX5_nextOf 13 = .ok (.invokevirtual 108, 3) := by decide +kernel
theorem dX5_nextOf_16 : decode cX5_nextOf 16 = .ok (.aload_n 0, 1) := by decide +kernel
theorem dX5_nextOf_17 : decode cX5_nextOf 17 = .ok (.getfield 30, 3) := by decide +kernel
theorem dX5_nextOf_20 : decode cX5_nextOf 20 = .ok (.iload_n 1, 1) := by decide +kernel
theorem dX5_nextOf_21 : decode cX5_nextOf 21 = .ok (.iaload, 1) := by decide +kernel
theorem dX5_nextOf_22 : decode cX5_nextOf 22 = .ok (.if_icmp .ne 15, 3) := by decide +kernel
theorem dX5_nextOf_25 : decode cX5_nextOf 25 = .ok (.aload_n 0, 1) := by decide +kernel
theorem dX5_nextOf_26 : decode cX5_nextOf 26 = .ok (.getfield 30, 3) := by decide +kernel
theorem dX5_nextOf_29 : decode cX5_nextOf 29 = .ok (.iload_n 1, 1) := by decide +kernel
theorem dX5_nextOf_30 : decode cX5_nextOf 30 = .ok (.iaload, 1) := by decide +kernel
theorem dX5_nextOf_31 : decode cX5_nextOf 31 = .ok (.iconst (-1), 1) := by decide +kernel
theorem dX5_nextOf_32 : decode cX5_nextOf 32 = .ok (.if_icmp .eq 5, 3) := by decide +kernel
theorem dX5_nextOf_35 : decode cX5_nextOf 35 = .ok (.iload_n 2, 1) := by decide +kernel
theorem dX5_nextOf_36 : decode cX5_nextOf 36 = .ok (.ireturn, 1) := by decide +kernel
theorem dX5_nextOf_37 : decode cX5_nextOf 37 = .ok (.iinc 2 1, 3) := by decide +kernel
theorem dX5_nextOf_40 : decode cX5_nextOf 40 = .ok (.goto (-38), 3) := by decide +kernel
theorem dX5_nextOf_43 : decode cX5_nextOf 43 = .ok (.iconst 0, 1) := by decide +kernel
theorem dX5_nextOf_44 : decode cX5_nextOf 44 = .ok (.ireturn, 1) := by decide +kernel
theorem dX6_spread_0 : decode cX6_spread 0 = .ok (.aload_n 0, 1) := by decide +kernel
theorem dX6_spread_1 : decode cX6_spread 1 = .ok (.dup, 1) := by decide +kernel
theorem dX6_spread_2 : decode cX6_spread 2 = .ok (.getfield 38, 3) := by decide +kernel
theorem dX6_spread_5 : decode cX6_spread 5 = .ok (.iconst 1, 1) := by decide +kernel
theorem dX6_spread_6 : decode cX6_spread 6 = .ok (.iadd, 1) := by decide +kernel
theorem dX6_spread_7 : decode cX6_spread 7 = .ok (.putfield 38, 3) := by decide +kernel
theorem dX6_spread_10 : decode cX6_spread 10 = .ok (.aload_n 0, 1) := by decide +kernel
theorem dX6_spread_11 : decode cX6_spread 11 = .ok (.getfield 28, 3) := by decide +kernel
theorem dX6_spread_14 : decode cX6_spread 14 = .ok (.iload_n 2, 1) := by decide +kernel
theorem dX6_spread_15 : decode cX6_spread 15 = .ok (.dup2, 1) := by decide +kernel
theorem dX6_spread_16 : decode cX6_spread 16 = .ok (.iaload, 1) := by decide +kernel
theorem dX6_spread_17 : decode cX6_spread 17 = .ok (.iconst 1, 1) := by decide +kernel
theorem dX6_spread_18 : decode cX6_spread 18 = .ok (.iadd, 1) := by decide +kernel
theorem dX6_spread_19 : decode cX6_spread 19 = .ok (.iastore, 1) := by decide +kernel
theorem dX6_spread_20 : decode cX6_spread 20 = .ok (.aload_n 0, 1) := by decide +kernel
theorem dX6_spread_21 : decode cX6_spread 21 = .ok (.getfield 50, 3) := by decide +kernel
theorem dX6_spread_24 : decode cX6_spread 24 = .ok (.aload_n 1, 1) := by decide +kernel
theorem dX6_spread_25 : decode cX6_spread 25 = .ok (.aload_n 0, 1) := by decide +kernel
theorem dX6_spread_26 : decode cX6_spread 26 = .ok (.getfield 46, 3) := by decide +kernel
theorem dX6_spread_29 : decode cX6_spread 29 = .ok (.iload_n 2, 1) := by decide +kernel
theorem dX6_spread_30 : decode cX6_spread 30 = .ok (.aload_n 1, 1) := by decide +kernel
theorem dX6_spread_31 : decode cX6_spread 31 = .ok (.getfield 54, 3) := by decide +kernel
theorem dX6_spread_34 : decode cX6_spread 34 = .ok (.invokevirtual 59, 3) := by decide +kernel
theorem dX6_spread_37 : decode cX6_spread 37 = .ok (.invokevirtual 65, 3) := by decide +kernel
theorem dX6_spread_40 : decode cX6_spread 40 = .ok (.iconst 0, 1) := by decide +kernel
theorem dX6_spread_41 : decode cX6_spread 41 = .ok (.istore_n 3, 1) := by decide +kernel
theorem dX6_spread_42 : decode cX6_spread 42 = .ok (.iconst 0, 1) := by decide +kernel
theorem dX6_spread_43 : decode cX6_spread 43 = .ok (.istore 4, 2) := by decide +kernel
theorem dX6_spread_45 : decode cX6_spread 45 = .ok (.iload 4, 2) := by decide +kernel
theorem dX6_spread_47 : decode cX6_spread 47 = .ok (.aload_n 0, 1) := by decide +kernel
theorem dX6_spread_48 : decode cX6_spread 48 = .ok (.getfield 50, 3) := by decide +kernel
theorem dX6_spread_51 : decode cX6_spread 51 = .ok (.getfield 71, 3) := by decide +kernel
theorem dX6_spread_54 : decode cX6_spread 54 = .ok (.if_icmp .ge 30, 3) := by decide +kernel
theorem dX6_spread_57 : decode cX6_spread 57 = .ok (.aload_n 0, 1) := by decide +kernel
theorem dX6_spread_58 : decode cX6_spread 58 = .ok (.aload_n 0, 1) := by decide +kernel
theorem dX6_spread_59 : decode cX6_spread 59 = .ok (.getfield 50, 3) := by decide +kernel
theorem dX6_spread_62 : decode cX6_spread 62 = .ok (.getfield 74, 3) := by decide +kernel
theorem dX6_spread_65 : decode cX6_spread 65 = .ok (.iload 4, 2) := by decide +kernel
theorem dX6_spread_67 : decode cX6_spread 67 = .ok (.iaload, 1) := by decide +kernel
theorem dX6_spread_68 : decode cX6_spread 68 = .ok (.iload_n 2, 1) := by decide +kernel
theorem dX6_spread_69 : decode cX6_spread 69 = .ok (.invokevirtual 77, 3) := by decide +kernel
theorem dX6_spread_72 : decode cX6_spread 72 = .ok (.ifCond .eq 6, 3) := by decide +kernel
theorem dX6_spread_75 : decode cX6_spread 75 = .ok (.iinc 3 1, 3) := by decide +kernel
theorem dX6_spread_78 : decode cX6_spread 78 = .ok (.iinc 4 1, 3) := by decide +kernel
theorem dX6_spread_81 : decode cX6_spread 81 = .ok (.goto (-36), 3) := by decide +kernel
theorem dX6_spread_84 : decode cX6_spread 84 = .ok (.iload_n 3, 1) := by decide +kernel
theorem dX6_spread_85 : decode cX6_spread 85 = .ok (.ireturn, 1) := by decide +kernel
theorem dX6_reaches_0 : decode cX6_reaches 0 = .ok (.aload_n 0, 1) := by decide +kernel
theorem dX6_reaches_1 : decode cX6_reaches 1 = .ok (.getfield 42, 3) := by decide +kernel
theorem dX6_reaches_4 : decode cX6_reaches 4 = .ok (.getfield 81, 3) := by decide +kernel
theorem dX6_reaches_7 : decode cX6_reaches 7 = .ok (.iload_n 1, 1) := by decide +kernel
theorem dX6_reaches_8 : decode cX6_reaches 8 = .ok (.baload, 1) := by decide +kernel
theorem dX6_reaches_9 : decode cX6_reaches 9 = .ok (.ifCond .eq 5, 3) := by decide +kernel
theorem dX6_reaches_12 : decode cX6_reaches 12 = .ok (.iconst 0, 1) := by decide +kernel
theorem dX6_reaches_13 : decode cX6_reaches 13 = .ok (.ireturn, 1) := by decide +kernel
theorem dX6_reaches_14 : decode cX6_reaches 14 = .ok (.aload_n 0, 1) := by decide +kernel
theorem dX6_reaches_15 : decode cX6_reaches 15 = .ok (.getfield 42, 3) := by decide +kernel
theorem dX6_reaches_18 : decode cX6_reaches 18 = .ok (.getfield 87, 3) := by decide +kernel
theorem dX6_reaches_21 : decode cX6_reaches 21 = .ok (.iload_n 1, 1) := by decide +kernel
theorem dX6_reaches_22 : decode cX6_reaches 22 = .ok (.iaload, 1) := by decide +kernel
theorem dX6_reaches_23 : decode cX6_reaches 23 = .ok (.iconst 4, 1) := by decide +kernel
theorem dX6_reaches_24 : decode cX6_reaches 24 = .ok (.if_icmp .ne 10, 3) := by decide +kernel
theorem dX6_reaches_27 : decode cX6_reaches 27 = .ok (.aload_n 0, 1) := by decide +kernel
theorem dX6_reaches_28 : decode cX6_reaches 28 = .ok (.iload_n 1, 1) := by decide +kernel
theorem dX6_reaches_29 : decode cX6_reaches 29 = .ok (.iload_n 2, 1) := by decide +kernel
theorem dX6_reaches_30 : decode cX6_reaches 30 = .ok (.invokevirtual 90, 3) := by decide +kernel
theorem dX6_reaches_33 : decode cX6_reaches 33 = .ok (.ireturn, 1) := by decide +kernel
theorem dX6_reaches_34 : decode cX6_reaches 34 = .ok (.aload_n 0, 1) := by decide +kernel
theorem dX6_reaches_35 : decode cX6_reaches 35 = .ok (.iload_n 1, 1) := by decide +kernel
theorem dX6_reaches_36 : decode cX6_reaches 36 = .ok (.iload_n 2, 1) := by decide +kernel
theorem dX6_reaches_37 : decode cX6_reaches 37 = .ok (.aload_n 0, 1) := by decide +kernel
theorem dX6_reaches_38 : decode cX6_reaches 38 = .ok (.getfield 28, 3) := by decide +kernel
theorem dX6_reaches_41 : decode cX6_reaches 41 = .ok (.iload_n 2, 1) := by decide +kernel
theorem dX6_reaches_42 : decode cX6_reaches 42 = .ok (.iaload, 1) := by decide +kernel
theorem dX6_reaches_43 : decode cX6_reaches 43 = .ok (.invokevirtual 93, 3) := by decide +kernel
theorem dX6_reaches_46 : decode cX6_reaches 46 = .ok (.ireturn, 1) := by decide +kernel
theorem dX6_receives_0 : decode cX6_receives 0 = .ok (.aload_n 0, 1) := by decide +kernel
theorem dX6_receives_1 : decode cX6_receives 1 = .ok (.iload_n 1, 1) := by decide +kernel
theorem dX6_receives_2 : decode cX6_receives 2 = .ok (.iload_n 2, 1) := by decide +kernel
theorem dX6_receives_3 : decode cX6_receives 3 = .ok (.invokevirtual 97, 3) := by decide +kernel
theorem dX6_receives_6 : decode cX6_receives 6 = .ok (.ifCond .eq 17, 3) := by decide +kernel
theorem dX6_receives_9 : decode cX6_receives 9 = .ok (.aload_n 0, 1) := by decide +kernel
theorem dX6_receives_10 : decode cX6_receives 10 = .ok (.iload_n 1, 1) := by decide +kernel
theorem dX6_receives_11 : decode cX6_receives 11 = .ok (.iload_n 2, 1) := by decide +kernel
theorem dX6_receives_12 : decode cX6_receives 12 = .ok (.iload_n 3, 1) := by decide +kernel
theorem dX6_receives_13 : decode cX6_receives 13 = .ok (.invokevirtual 100, 3) := by decide +kernel
theorem dX6_receives_16 : decode cX6_receives 16 = .ok (.ifCond .eq 7, 3) := by decide +kernel
theorem dX6_receives_19 : decode cX6_receives 19 = .ok (.iconst 1, 1) := by decide +kernel
theorem dX6_receives_20 : decode cX6_receives 20 = .ok (.goto 4, 3) := by decide +kernel
theorem dX6_receives_23 : decode cX6_receives 23 = .ok (.iconst 0, 1) := by decide +kernel
theorem dX6_receives_24 : decode cX6_receives 24 = .ok (.ireturn, 1) := by decide +kernel
theorem dX6_takesGreater_0 : decode cX6_takesGreater 0 = .ok (.iload_n 3, 1) := by decide +kernel
theorem dX6_takesGreater_1 : decode cX6_takesGreater 1 = .ok (.aload_n 0, 1) := by decide +kernel
theorem dX6_takesGreater_2 : decode cX6_takesGreater 2 = .ok (.getfield 11, 3) := by decide +kernel
theorem dX6_takesGreater_5 : decode cX6_takesGreater 5 = .ok (.iload_n 1, 1) := by decide +kernel
theorem dX6_takesGreater_6 : decode cX6_takesGreater 6 = .ok (.aaload, 1) := by decide +kernel
theorem dX6_takesGreater_7 : decode cX6_takesGreater 7 = .ok (.iload_n 2, 1) := by decide +kernel
theorem dX6_takesGreater_8 : decode cX6_takesGreater 8 = .ok (.iaload, 1) := by decide +kernel
theorem dX6_takesGreater_9 : decode cX6_takesGreater 9 = .ok (.if_icmp .gt 5, 3) := by decide +kernel
theorem dX6_takesGreater_12 : decode cX6_takesGreater 12 = .ok (.iconst 0, 1) := by decide +kernel
theorem dX6_takesGreater_13 : decode cX6_takesGreater 13 = .ok (.ireturn, 1) := by decide +kernel
theorem dX6_takesGreater_14 : decode cX6_takesGreater 14 = .ok (.aload_n 0, 1) := by decide +kernel
theorem dX6_takesGreater_15 : decode cX6_takesGreater 15 = .ok (.getfield 11, 3) := by decide +kernel
theorem dX6_takesGreater_18 : decode cX6_takesGreater 18 = .ok (.iload_n 1, 1) := by decide +kernel
theorem dX6_takesGreater_19 : decode cX6_takesGreater 19 = .ok (.aaload, 1) := by decide +kernel
theorem dX6_takesGreater_20 : decode cX6_takesGreater 20 = .ok (.iload_n 2, 1) := by decide +kernel
theorem dX6_takesGreater_21 : decode cX6_takesGreater 21 = .ok (.iload_n 3, 1) := by decide +kernel
theorem dX6_takesGreater_22 : decode cX6_takesGreater 22 = .ok (.iastore, 1) := by decide +kernel
theorem dX6_takesGreater_23 : decode cX6_takesGreater 23 = .ok (.iconst 1, 1) := by decide +kernel
theorem dX6_takesGreater_24 : decode cX6_takesGreater 24 = .ok (.ireturn, 1) := by decide +kernel
theorem dX6_hasRoom_0 : decode cX6_hasRoom 0 = .ok (.aload_n 0, 1) := by decide +kernel
theorem dX6_hasRoom_1 : decode cX6_hasRoom 1 = .ok (.getfield 42, 3) := by decide +kernel
theorem dX6_hasRoom_4 : decode cX6_hasRoom 4 = .ok (.getfield 87, 3) := by decide +kernel
theorem dX6_hasRoom_7 : decode cX6_hasRoom 7 = .ok (.iload_n 1, 1) := by decide +kernel
theorem dX6_hasRoom_8 : decode cX6_hasRoom 8 = .ok (.iaload, 1) := by decide +kernel
theorem dX6_hasRoom_9 : decode cX6_hasRoom 9 = .ok (.bipush 6, 2) := by decide +kernel
theorem dX6_hasRoom_11 : decode cX6_hasRoom 11 = .ok (.if_icmp .ne 14, 3) := by decide +kernel
theorem dX6_hasRoom_14 : decode cX6_hasRoom 14 = .ok (.aload_n 0, 1) := by decide +kernel
theorem dX6_hasRoom_15 : decode cX6_hasRoom 15 = .ok (.getfield 11, 3) := by decide +kernel
theorem dX6_hasRoom_18 : decode cX6_hasRoom 18 = .ok (.iload_n 1, 1) := by decide +kernel
theorem dX6_hasRoom_19 : decode cX6_hasRoom 19 = .ok (.aaload, 1) := by decide +kernel
theorem dX6_hasRoom_20 : decode cX6_hasRoom 20 = .ok (.iload_n 2, 1) := by decide +kernel
theorem dX6_hasRoom_21 : decode cX6_hasRoom 21 = .ok (.iaload, 1) := by decide +kernel
theorem dX6_hasRoom_22 : decode cX6_hasRoom 22 = .ok (.ifCond .le 5, 3) := by decide +kernel
theorem dX6_hasRoom_25 : decode cX6_hasRoom 25 = .ok (.iconst 1, 1) := by decide +kernel
theorem dX6_hasRoom_26 : decode cX6_hasRoom 26 = .ok (.ireturn, 1) := by decide +kernel
theorem dX6_hasRoom_27 : decode cX6_hasRoom 27 = .ok (.aload_n 0, 1) := by decide +kernel
theorem dX6_hasRoom_28 : decode cX6_hasRoom 28 = .ok (.iload_n 1, 1) := by decide +kernel
theorem dX6_hasRoom_29 : decode cX6_hasRoom 29 = .ok (.invokevirtual 103, 3) := by decide +kernel
theorem dX6_hasRoom_32 : decode cX6_hasRoom 32 = .ok (.bipush 8, 2) := by decide +kernel
theorem dX6_hasRoom_34 : decode cX6_hasRoom 34 = .ok (.if_icmp .ge 7, 3) := by decide +kernel
theorem dX6_hasRoom_37 : decode cX6_hasRoom 37 = .ok (.iconst 1, 1) := by decide +kernel
theorem dX6_hasRoom_38 : decode cX6_hasRoom 38 = .ok (.goto 4, 3) := by decide +kernel
theorem dX6_hasRoom_41 : decode cX6_hasRoom 41 = .ok (.iconst 0, 1) := by decide +kernel
theorem dX6_hasRoom_42 : decode cX6_hasRoom 42 = .ok (.ireturn, 1) := by decide +kernel
theorem dX6_isKeptFor_0 : decode cX6_isKeptFor 0 = .ok (.iconst 0, 1) := by decide +kernel
theorem dX6_isKeptFor_1 : decode cX6_isKeptFor 1 = .ok (.istore_n 3, 1) := by decide +kernel
theorem dX6_isKeptFor_2 : decode cX6_isKeptFor 2 = .ok (.iload_n 3, 1) := by decide +kernel
theorem dX6_isKeptFor_3 : decode cX6_isKeptFor 3 = .ok (.aload_n 0, 1) := by decide +kernel
theorem dX6_isKeptFor_4 : decode cX6_isKeptFor 4 = .ok (.getfield 50, 3) := by decide +kernel
theorem dX6_isKeptFor_7 : decode cX6_isKeptFor 7 = .ok (.getfield 107, 3) := by decide +kernel
theorem dX6_isKeptFor_10 : decode cX6_isKeptFor 10 = .ok (.if_icmp .ge 102, 3) := by decide +kernel
theorem dX6_isKeptFor_13 : decode cX6_isKeptFor 13 = .ok (.aload_n 0, 1) := by decide +kernel
theorem dX6_isKeptFor_14 : decode cX6_isKeptFor 14 = .ok (.getfield 50, 3) := by decide +kernel
theorem dX6_isKeptFor_17 : decode cX6_isKeptFor 17 = .ok (.getfield 110, 3) := by decide +kernel
theorem dX6_isKeptFor_20 : decode cX6_isKeptFor 20 = .ok (.iload_n 3, 1) := by decide +kernel
theorem dX6_isKeptFor_21 : decode cX6_isKeptFor 21 = .ok (.iaload, 1) := by decide +kernel
theorem dX6_isKeptFor_22 : decode cX6_isKeptFor 22 = .ok (.istore 4, 2) := by decide +kernel
theorem dX6_isKeptFor_24 : decode cX6_isKeptFor 24 = .ok (.aload_n 0, 1) := by decide +kernel
theorem dX6_isKeptFor_25 : decode cX6_isKeptFor 25 = .ok (.getfield 50, 3) := by decide +kernel
theorem dX6_isKeptFor_28 : decode cX6_isKeptFor 28 = .ok (.iload 4, 2) := by decide +kernel
theorem dX6_isKeptFor_30 : decode cX6_isKeptFor 30 = .ok (.invokevirtual 113, 3) := by decide +kernel
theorem dX6_isKeptFor_33 : decode cX6_isKeptFor 33 = .ok (.ifCond .ne 73, 3) := by decide +kernel
theorem dX6_isKeptFor_36 : decode cX6_isKeptFor 36 = .ok (.aload_n 0, 1) := by decide +kernel
theorem dX6_isKeptFor_37 : decode cX6_isKeptFor 37 = .ok (.getfield 42, 3) := by decide +kernel
theorem dX6_isKeptFor_40 : decode cX6_isKeptFor 40 = .ok (.iload 4, 2) := by decide +kernel
theorem dX6_isKeptFor_42 : decode cX6_isKeptFor 42 = .ok (.invokevirtual 117, 3) := by decide +kernel
theorem dX6_isKeptFor_45 : decode cX6_isKeptFor 45 = .ok (.ifCond .ne 6, 3) := by decide +kernel
theorem dX6_isKeptFor_48 : decode cX6_isKeptFor 48 = .ok (.goto 58, 3) := by decide +kernel
theorem dX6_isKeptFor_51 : decode cX6_isKeptFor 51 = .ok (.aload_n 0, 1) := by decide +kernel
theorem dX6_isKeptFor_52 : decode cX6_isKeptFor 52 = .ok (.getfield 16, 3) := by decide +kernel
theorem dX6_isKeptFor_55 : decode cX6_isKeptFor 55 = .ok (.iload 4, 2) := by decide +kernel
theorem dX6_isKeptFor_57 : decode cX6_isKeptFor 57 = .ok (.aaload, 1) := by decide +kernel
theorem dX6_isKeptFor_58 : decode cX6_isKeptFor 58 = .ok (.iload_n 2, 1) := by decide +kernel
theorem dX6_isKeptFor_59 : decode cX6_isKeptFor 59 = .ok (.iaload, 1) := by decide +kernel
theorem dX6_isKeptFor_60 : decode cX6_isKeptFor 60 = .ok (.ifCond .le 19, 3) := by decide +kernel
theorem dX6_isKeptFor_63 : decode cX6_isKeptFor 63 = .ok (.aload_n 0, 1) := by decide +kernel
theorem dX6_isKeptFor_64 : decode cX6_isKeptFor 64 = .ok (.getfield 19, 3) := by decide +kernel
theorem dX6_isKeptFor_67 : decode cX6_isKeptFor 67 = .ok (.iload 4, 2) := by decide +kernel
theorem dX6_isKeptFor_69 : decode cX6_isKeptFor 69 = .ok (.aaload, 1) := by decide +kernel
theorem dX6_isKeptFor_70 : decode cX6_isKeptFor 70 = .ok (.iload_n 2, 1) := by decide +kernel
theorem dX6_isKeptFor_71 : decode cX6_isKeptFor 71 = .ok (.iaload, 1) := by decide +kernel
theorem dX6_isKeptFor_72 : decode cX6_isKeptFor 72 = .ok (.iload_n 1, 1) := by decide +kernel
theorem dX6_isKeptFor_73 : decode cX6_isKeptFor 73 = .ok (.if_icmp .eq 6, 3) := by decide +kernel
theorem dX6_isKeptFor_76 : decode cX6_isKeptFor 76 = .ok (.goto 30, 3) := by decide +kernel
theorem dX6_isKeptFor_79 : decode cX6_isKeptFor 79 = .ok (.aload_n 0, 1) := by decide +kernel
theorem dX6_isKeptFor_80 : decode cX6_isKeptFor 80 = .ok (.getfield 16, 3) := by decide +kernel
theorem dX6_isKeptFor_83 : decode cX6_isKeptFor 83 = .ok (.iload 4, 2) := by decide +kernel
theorem dX6_isKeptFor_85 : decode cX6_isKeptFor 85 = .ok (.aaload, 1) := by decide +kernel
theorem dX6_isKeptFor_86 : decode cX6_isKeptFor 86 = .ok (.iload_n 2, 1) := by decide +kernel
theorem dX6_isKeptFor_87 : decode cX6_isKeptFor 87 = .ok (.aload_n 0, 1) := by decide +kernel
theorem dX6_isKeptFor_88 : decode cX6_isKeptFor 88 = .ok (.getfield 28, 3) := by decide +kernel
theorem dX6_isKeptFor_91 : decode cX6_isKeptFor 91 = .ok (.iload_n 2, 1) := by decide +kernel
theorem dX6_isKeptFor_92 : decode cX6_isKeptFor 92 = .ok (.iaload, 1) := by decide +kernel
theorem dX6_isKeptFor_93 : decode cX6_isKeptFor 93 = .ok (.iastore, 1) := by decide +kernel
theorem dX6_isKeptFor_94 : decode cX6_isKeptFor 94 = .ok (.aload_n 0, 1) := by decide +kernel
theorem dX6_isKeptFor_95 : decode cX6_isKeptFor 95 = .ok (.getfield 19, 3) := by decide +kernel
theorem dX6_isKeptFor_98 : decode cX6_isKeptFor 98 = .ok (.iload 4, 2) := by decide +kernel
theorem dX6_isKeptFor_100 : decode cX6_isKeptFor 100 = .ok (.aaload, 1) := by decide +kernel
theorem dX6_isKeptFor_101 : decode cX6_isKeptFor 101 = .ok (.iload_n 2, 1) := by decide +kernel
theorem dX6_isKeptFor_102 : decode cX6_isKeptFor 102 = .ok (.iload_n 1, 1) := by decide +kernel
theorem dX6_isKeptFor_103 : decode cX6_isKeptFor 103 = .ok (.iastore, 1) := by decide +kernel
theorem dX6_isKeptFor_104 : decode cX6_isKeptFor 104 = .ok (.iconst 1, 1) := by decide +kernel
theorem dX6_isKeptFor_105 : decode cX6_isKeptFor 105 = .ok (.ireturn, 1) := by decide +kernel
theorem dX6_isKeptFor_106 : decode cX6_isKeptFor 106 = .ok (.iinc 3 1, 3) := by decide +kernel
theorem dX6_isKeptFor_109 : decode cX6_isKeptFor 109 = .ok (.goto (-107), 3) := by decide +kernel
theorem dX6_isKeptFor_112 : decode cX6_isKeptFor 112 = .ok (.iconst 0, 1) := by decide +kernel
theorem dX6_isKeptFor_113 : decode cX6_isKeptFor 113 = .ok (.ireturn, 1) := by decide +kernel
theorem dX6_handBack_0 : decode cX6_handBack 0 = .ok (.iconst 0, 1) := by decide +kernel
theorem dX6_handBack_1 : decode cX6_handBack 1 = .ok (.istore_n 2, 1) := by decide +kernel
theorem dX6_handBack_2 : decode cX6_handBack 2 = .ok (.iload_n 2, 1) := by decide +kernel
theorem dX6_handBack_3 : decode cX6_handBack 3 = .ok (.aload_n 0, 1) := by decide +kernel
theorem dX6_handBack_4 : decode cX6_handBack 4 = .ok (.getfield 42, 3) := by decide +kernel
theorem dX6_handBack_7 : decode cX6_handBack 7 = .ok (.getfield 120, 3) := by decide +kernel
theorem dX6_handBack_10 : decode cX6_handBack 10 = .ok (.if_icmp .ge 78, 3) := by decide +kernel
theorem dX6_handBack_13 : decode cX6_handBack 13 = .ok (.iconst 0, 1) := by decide +kernel
theorem dX6_handBack_14 : decode cX6_handBack 14 = .ok (.istore_n 3, 1) := by decide +kernel
theorem dX6_handBack_15 : decode cX6_handBack 15 = .ok (.iload_n 3, 1) := by decide +kernel
theorem dX6_handBack_16 : decode cX6_handBack 16 = .ok (.aload_n 0, 1) := by decide +kernel
theorem dX6_handBack_17 : decode cX6_handBack 17 = .ok (.getfield 46, 3) := by decide +kernel
theorem dX6_handBack_20 : decode cX6_handBack 20 = .ok (.getfield 123, 3) := by decide +kernel
theorem dX6_handBack_23 : decode cX6_handBack 23 = .ok (.if_icmp .ge 59, 3) := by decide +kernel
theorem dX6_handBack_26 : decode cX6_handBack 26 = .ok (.aload_n 0, 1) := by decide +kernel
theorem dX6_handBack_27 : decode cX6_handBack 27 = .ok (.getfield 16, 3) := by decide +kernel
theorem dX6_handBack_30 : decode cX6_handBack 30 = .ok (.iload_n 2, 1) := by decide +kernel
theorem dX6_handBack_31 : decode cX6_handBack 31 = .ok (.aaload, 1) := by decide +kernel
theorem dX6_handBack_32 : decode cX6_handBack 32 = .ok (.iload_n 3, 1) := by decide +kernel
theorem dX6_handBack_33 : decode cX6_handBack 33 = .ok (.iaload, 1) := by decide +kernel
theorem dX6_handBack_34 : decode cX6_handBack 34 = .ok (.ifCond .eq 42, 3) := by decide +kernel
theorem dX6_handBack_37 : decode cX6_handBack 37 = .ok (.aload_n 0, 1) := by decide +kernel
theorem dX6_handBack_38 : decode cX6_handBack 38 = .ok (.getfield 19, 3) := by decide +kernel
theorem dX6_handBack_41 : decode cX6_handBack 41 = .ok (.iload_n 2, 1) := by decide +kernel
theorem dX6_handBack_42 : decode cX6_handBack 42 = .ok (.aaload, 1) := by decide +kernel
theorem dX6_handBack_43 : decode cX6_handBack 43 = .ok (.iload_n 3, 1) := by decide +kernel
theorem dX6_handBack_44 : decode cX6_handBack 44 = .ok (.iaload, 1) := by decide +kernel
theorem dX6_handBack_45 : decode cX6_handBack 45 = .ok (.iload_n 1, 1) := by decide +kernel
theorem dX6_handBack_46 : decode cX6_handBack 46 = .ok (.if_icmp .eq 6, 3) := by decide +kernel
theorem dX6_handBack_49 : decode cX6_handBack 49 = .ok (.goto 27, 3) := by decide +kernel
theorem dX6_handBack_52 : decode cX6_handBack 52 = .ok (.aload_n 0, 1) := by decide +kernel
theorem dX6_handBack_53 : decode cX6_handBack 53 = .ok (.iload_n 1, 1) := by decide +kernel
theorem dX6_handBack_54 : decode cX6_handBack 54 = .ok (.iload_n 3, 1) := by decide +kernel
theorem dX6_handBack_55 : decode cX6_handBack 55 = .ok (.aload_n 0, 1) := by decide +kernel
theorem dX6_handBack_56 : decode cX6_handBack 56 = .ok (.getfield 16, 3) := by decide +kernel
theorem dX6_handBack_59 : decode cX6_handBack 59 = .ok (.iload_n 2, 1) := by decide +kernel
theorem dX6_handBack_60 : decode cX6_handBack 60 = .ok (.aaload, 1) := by decide +kernel
theorem dX6_handBack_61 : decode cX6_handBack 61 = .ok (.iload_n 3, 1) := by decide +kernel
theorem dX6_handBack_62 : decode cX6_handBack 62 = .ok (.iaload, 1) := by decide +kernel
theorem dX6_handBack_63 : decode cX6_handBack 63 = .ok (.invokevirtual 100, 3) := by decide +kernel
theorem dX6_handBack_66 : decode cX6_handBack 66 = .ok (.pop, 1) := by decide +kernel
theorem dX6_handBack_67 : decode cX6_handBack 67 = .ok (.aload_n 0, 1) := by decide +kernel
theorem dX6_handBack_68 : decode cX6_handBack 68 = .ok (.getfield 16, 3) := by decide +kernel
theorem dX6_handBack_71 : decode cX6_handBack 71 = .ok (.iload_n 2, 1) := by decide +kernel
theorem dX6_handBack_72 : decode cX6_handBack 72 = .ok (.aaload, 1) := by decide +kernel
theorem dX6_handBack_73 : decode cX6_handBack 73 = .ok (.iload_n 3, 1) := by decide +kernel
theorem dX6_handBack_74 : decode cX6_handBack 74 = .ok (.iconst 0, 1) := by decide +kernel
theorem dX6_handBack_75 : decode cX6_handBack 75 = .ok (.iastore, 1) := by decide +kernel
theorem dX6_handBack_76 : decode cX6_handBack 76 = .ok (.iinc 3 1, 3) := by decide +kernel
theorem dX6_handBack_79 : decode cX6_handBack 79 = .ok (.goto (-64), 3) := by decide +kernel
theorem dX6_handBack_82 : decode cX6_handBack 82 = .ok (.iinc 2 1, 3) := by decide +kernel
theorem dX6_handBack_85 : decode cX6_handBack 85 = .ok (.goto (-83), 3) := by decide +kernel
theorem dX6_handBack_88 : decode cX6_handBack 88 = .ok (.return_, 1) := by decide +kernel
theorem dX6_empty_0 : decode cX6_empty 0 = .ok (.aload_n 0, 1) := by decide +kernel
theorem dX6_empty_1 : decode cX6_empty 1 = .ok (.getfield 11, 3) := by decide +kernel
theorem dX6_empty_4 : decode cX6_empty 4 = .ok (.iload_n 1, 1) := by decide +kernel
theorem dX6_empty_5 : decode cX6_empty 5 = .ok (.aaload, 1) := by decide +kernel
theorem dX6_empty_6 : decode cX6_empty 6 = .ok (.iconst 0, 1) := by decide +kernel
theorem dX6_empty_7 : decode cX6_empty 7 = .ok (.invokestatic 124, 3) := by decide +kernel
theorem dX6_empty_10 : decode cX6_empty 10 = .ok (.aload_n 0, 1) := by decide +kernel
theorem dX6_empty_11 : decode cX6_empty 11 = .ok (.getfield 16, 3) := by decide +kernel
theorem dX6_empty_14 : decode cX6_empty 14 = .ok (.iload_n 1, 1) := by decide +kernel
theorem dX6_empty_15 : decode cX6_empty 15 = .ok (.aaload, 1) := by decide +kernel
theorem dX6_empty_16 : decode cX6_empty 16 = .ok (.iconst 0, 1) := by decide +kernel
theorem dX6_empty_17 : decode cX6_empty 17 = .ok (.invokestatic 124, 3) := by decide +kernel
theorem dX6_empty_20 : decode cX6_empty 20 = .ok (.return_, 1) := by decide +kernel
theorem dX6_greatestFor_0 : decode cX6_greatestFor 0 = .ok (.aload_n 0, 1) := by decide +kernel
theorem dX6_greatestFor_1 : decode cX6_greatestFor 1 = .ok (.getfield 50, 3) := by decide +kernel
theorem dX6_greatestFor_4 : decode cX6_greatestFor 4 = .ok (.aload_n 1, 1) := by decide +kernel
theorem dX6_greatestFor_5 : decode cX6_greatestFor 5 = .ok (.aload_n 0, 1) := by decide +kernel
theorem dX6_greatestFor_6 : decode cX6_greatestFor 6 = .ok (.getfield 46, 3) := by decide +kernel
theorem dX6_greatestFor_9 : decode cX6_greatestFor 9 = .ok (.iload_n 2, 1) := by decide +kernel
theorem dX6_greatestFor_10 : decode cX6_greatestFor 10 = .ok (.aload_n 1, 1) := by decide +kernel
theorem dX6_greatestFor_11 : decode cX6_greatestFor 11 = .ok (.getfield 54, 3) := by decide +kernel
theorem dX6_greatestFor_14 : decode cX6_greatestFor 14 = .ok (.invokevirtual 59, 3) := by decide +kernel
theorem dX6_greatestFor_17 : decode cX6_greatestFor 17 = .ok (.invokevirtual 65, 3) := by decide +kernel
theorem dX6_greatestFor_20 : decode cX6_greatestFor 20 = .ok (.iconst 0, 1) := by decide +kernel
theorem dX6_greatestFor_21 : decode cX6_greatestFor 21 = .ok (.istore_n 3, 1) := by decide +kernel
theorem dX6_greatestFor_22 : decode cX6_greatestFor 22 = .ok (.iconst 0, 1) := by decide +kernel
theorem dX6_greatestFor_23 : decode cX6_greatestFor 23 = .ok (.istore 4, 2) := by decide +kernel
theorem dX6_greatestFor_25 : decode cX6_greatestFor 25 = .ok (.iload 4, 2) := by decide +kernel
theorem dX6_greatestFor_27 : decode cX6_greatestFor 27 = .ok (.aload_n 0, 1) := by decide +kernel
theorem dX6_greatestFor_28 : decode cX6_greatestFor 28 = .ok (.getfield 50, 3) := by decide +kernel
theorem dX6_greatestFor_31 : decode cX6_greatestFor 31 = .ok (.getfield 71, 3) := by decide +kernel
theorem dX6_greatestFor_34 : decode cX6_greatestFor 34 = .ok (.if_icmp .ge 47, 3) := by decide +kernel
theorem dX6_greatestFor_37 : decode cX6_greatestFor 37 = .ok (.aload_n 0, 1) := by decide +kernel
theorem dX6_greatestFor_38 : decode cX6_greatestFor 38 = .ok (.getfield 50, 3) := by decide +kernel
theorem dX6_greatestFor_41 : decode cX6_greatestFor 41 = .ok (.getfield 74, 3) := by decide +kernel
theorem dX6_greatestFor_44 : decode cX6_greatestFor 44 = .ok (.iload 4, 2) := by decide +kernel
theorem dX6_greatestFor_46 : decode cX6_greatestFor 46 = .ok (.iaload, 1) := by decide +kernel
theorem dX6_greatestFor_47 : decode cX6_greatestFor 47 = .ok (.istore 5, 2) := by decide +kernel
theorem dX6_greatestFor_49 : decode cX6_greatestFor 49 = .ok (.aload_n 0, 1) := by decide +kernel
theorem dX6_greatestFor_50 : decode cX6_greatestFor 50 = .ok (.getfield 42, 3) := by decide +kernel
theorem dX6_greatestFor_53 : decode cX6_greatestFor 53 = .ok (.iload 5, 2) := by decide +kernel
theorem dX6_greatestFor_55 : decode cX6_greatestFor 55 = .ok (.invokevirtual 117, 3) := by decide +kernel
theorem dX6_greatestFor_58 : decode cX6_greatestFor 58 = .ok (.ifCond .eq 17, 3) := by decide +kernel
theorem dX6_greatestFor_61 : decode cX6_greatestFor 61 = .ok (.iload_n 3, 1) := by decide +kernel
theorem dX6_greatestFor_62 : decode cX6_greatestFor 62 = .ok (.aload_n 0, 1) := by decide +kernel
theorem dX6_greatestFor_63 : decode cX6_greatestFor 63 = .ok (.getfield 11, 3) := by decide +kernel
theorem dX6_greatestFor_66 : decode cX6_greatestFor 66 = .ok (.iload 5, 2) := by decide +kernel
theorem dX6_greatestFor_68 : decode cX6_greatestFor 68 = .ok (.aaload, 1) := by decide +kernel
theorem dX6_greatestFor_69 : decode cX6_greatestFor 69 = .ok (.iload_n 2, 1) := by decide +kernel
theorem dX6_greatestFor_70 : decode cX6_greatestFor 70 = .ok (.iaload, 1) := by decide +kernel
theorem dX6_greatestFor_71 : decode cX6_greatestFor 71 = .ok (.invokestatic 130, 3) := by decide +kernel
theorem dX6_greatestFor_74 : decode cX6_greatestFor 74 = .ok (.istore_n 3, 1) := by decide +kernel
theorem dX6_greatestFor_75 : decode cX6_greatestFor 75 = .ok (.iinc 4 1, 3) := by decide +kernel
theorem dX6_greatestFor_78 : decode cX6_greatestFor 78 = .ok (.goto (-53), 3) := by decide +kernel
end
section
theorem dX6_greatestFor_81 : decode cX6_greatestFor 81 = .ok (.iload_n 3, 1) := by decide +kernel
theorem dX6_greatestFor_82 : decode cX6_greatestFor 82 = .ok (.ireturn, 1) := by decide +kernel
theorem dX6_movePiece_0 : decode cX6_movePiece 0 = .ok (.aload_n 0, 1) := by decide +kernel
theorem dX6_movePiece_1 : decode cX6_movePiece 1 = .ok (.getfield 42, 3) := by decide +kernel
theorem dX6_movePiece_4 : decode cX6_movePiece 4 = .ok (.iload_n 2, 1) := by decide +kernel
theorem dX6_movePiece_5 : decode cX6_movePiece 5 = .ok (.invokevirtual 117, 3) := by decide +kernel
theorem dX6_movePiece_8 : decode cX6_movePiece 8 = .ok (.ifCond .eq 14, 3) := by decide +kernel
theorem dX6_movePiece_11 : decode cX6_movePiece 11 = .ok (.aload_n 0, 1) := by decide +kernel
theorem dX6_movePiece_12 : decode cX6_movePiece 12 = .ok (.getfield 42, 3) := by decide +kernel
theorem dX6_movePiece_15 : decode cX6_movePiece 15 = .ok (.iload_n 3, 1) := by decide +kernel
theorem dX6_movePiece_16 : decode cX6_movePiece 16 = .ok (.invokevirtual 117, 3) := by decide +kernel
theorem dX6_movePiece_19 : decode cX6_movePiece 19 = .ok (.ifCond .ne 14, 3) := by decide +kernel
theorem dX6_movePiece_22 : decode cX6_movePiece 22 = .ok (.aload_n 0, 1) := by decide +kernel
theorem dX6_movePiece_23 : decode cX6_movePiece 23 = .ok (.getfield 22, 3) := by decide +kernel
theorem dX6_movePiece_26 : decode cX6_movePiece 26 = .ok (.iload_n 2, 1) := by decide +kernel
theorem dX6_movePiece_27 : decode cX6_movePiece 27 = .ok (.aaload, 1) := by decide +kernel
theorem dX6_movePiece_28 : decode cX6_movePiece 28 = .ok (.iload_n 1, 1) := by decide +kernel
theorem dX6_movePiece_29 : decode cX6_movePiece 29 = .ok (.iconst 0, 1) := by decide +kernel
theorem dX6_movePiece_30 : decode cX6_movePiece 30 = .ok (.iastore, 1) := by decide +kernel
theorem dX6_movePiece_31 : decode cX6_movePiece 31 = .ok (.iconst 0, 1) := by decide +kernel
theorem dX6_movePiece_32 : decode cX6_movePiece 32 = .ok (.ireturn, 1) := by decide +kernel
theorem dX6_movePiece_33 : decode cX6_movePiece 33 = .ok (.aload_n 0, 1) := by decide +kernel
theorem dX6_movePiece_34 : decode cX6_movePiece 34 = .ok (.getfield 25, 3) := by decide +kernel
theorem dX6_movePiece_37 : decode cX6_movePiece 37 = .ok (.iload_n 2, 1) := by decide +kernel
theorem dX6_movePiece_38 : decode cX6_movePiece 38 = .ok (.aaload, 1) := by decide +kernel
theorem dX6_movePiece_39 : decode cX6_movePiece 39 = .ok (.iload_n 1, 1) := by decide +kernel
theorem dX6_movePiece_40 : decode cX6_movePiece 40 = .ok (.iaload, 1) := by decide +kernel
theorem dX6_movePiece_41 : decode cX6_movePiece 41 = .ok (.iload_n 3, 1) := by decide +kernel
theorem dX6_movePiece_42 : decode cX6_movePiece 42 = .ok (.if_icmp .eq 12, 3) := by decide +kernel
theorem dX6_movePiece_45 : decode cX6_movePiece 45 = .ok (.aload_n 0, 1) := by decide +kernel
theorem dX6_movePiece_46 : decode cX6_movePiece 46 = .ok (.getfield 22, 3) := by decide +kernel
theorem dX6_movePiece_49 : decode cX6_movePiece 49 = .ok (.iload_n 2, 1) := by decide +kernel
theorem dX6_movePiece_50 : decode cX6_movePiece 50 = .ok (.aaload, 1) := by decide +kernel
theorem dX6_movePiece_51 : decode cX6_movePiece 51 = .ok (.iload_n 1, 1) := by decide +kernel
theorem dX6_movePiece_52 : decode cX6_movePiece 52 = .ok (.iconst 0, 1) := by decide +kernel
theorem dX6_movePiece_53 : decode cX6_movePiece 53 = .ok (.iastore, 1) := by decide +kernel
theorem dX6_movePiece_54 : decode cX6_movePiece 54 = .ok (.aload_n 0, 1) := by decide +kernel
theorem dX6_movePiece_55 : decode cX6_movePiece 55 = .ok (.getfield 25, 3) := by decide +kernel
theorem dX6_movePiece_58 : decode cX6_movePiece 58 = .ok (.iload_n 2, 1) := by decide +kernel
theorem dX6_movePiece_59 : decode cX6_movePiece 59 = .ok (.aaload, 1) := by decide +kernel
theorem dX6_movePiece_60 : decode cX6_movePiece 60 = .ok (.iload_n 1, 1) := by decide +kernel
theorem dX6_movePiece_61 : decode cX6_movePiece 61 = .ok (.iload_n 3, 1) := by decide +kernel
theorem dX6_movePiece_62 : decode cX6_movePiece 62 = .ok (.iastore, 1) := by decide +kernel
theorem dX6_movePiece_63 : decode cX6_movePiece 63 = .ok (.aload_n 0, 1) := by decide +kernel
theorem dX6_movePiece_64 : decode cX6_movePiece 64 = .ok (.getfield 22, 3) := by decide +kernel
theorem dX6_movePiece_67 : decode cX6_movePiece 67 = .ok (.iload_n 2, 1) := by decide +kernel
theorem dX6_movePiece_68 : decode cX6_movePiece 68 = .ok (.aaload, 1) := by decide +kernel
theorem dX6_movePiece_69 : decode cX6_movePiece 69 = .ok (.iload_n 1, 1) := by decide +kernel
theorem dX6_movePiece_70 : decode cX6_movePiece 70 = .ok (.dup2, 1) := by decide +kernel
theorem dX6_movePiece_71 : decode cX6_movePiece 71 = .ok (.iaload, 1) := by decide +kernel
theorem dX6_movePiece_72 : decode cX6_movePiece 72 = .ok (.iconst 1, 1) := by decide +kernel
theorem dX6_movePiece_73 : decode cX6_movePiece 73 = .ok (.iadd, 1) := by decide +kernel
theorem dX6_movePiece_74 : decode cX6_movePiece 74 = .ok (.iastore, 1) := by decide +kernel
theorem dX6_movePiece_75 : decode cX6_movePiece 75 = .ok (.aload_n 0, 1) := by decide +kernel
theorem dX6_movePiece_76 : decode cX6_movePiece 76 = .ok (.getfield 22, 3) := by decide +kernel
theorem dX6_movePiece_79 : decode cX6_movePiece 79 = .ok (.iload_n 2, 1) := by decide +kernel
theorem dX6_movePiece_80 : decode cX6_movePiece 80 = .ok (.aaload, 1) := by decide +kernel
theorem dX6_movePiece_81 : decode cX6_movePiece 81 = .ok (.iload_n 1, 1) := by decide +kernel
theorem dX6_movePiece_82 : decode cX6_movePiece 82 = .ok (.iaload, 1) := by decide +kernel
theorem dX6_movePiece_83 : decode cX6_movePiece 83 = .ok (.iconst 3, 1) := by decide +kernel
theorem dX6_movePiece_84 : decode cX6_movePiece 84 = .ok (.if_icmp .ge 12, 3) := by decide +kernel
theorem dX6_movePiece_87 : decode cX6_movePiece 87 = .ok (.aload_n 0, 1) := by decide +kernel
theorem dX6_movePiece_88 : decode cX6_movePiece 88 = .ok (.getfield 22, 3) := by decide +kernel
theorem dX6_movePiece_91 : decode cX6_movePiece 91 = .ok (.iload_n 2, 1) := by decide +kernel
theorem dX6_movePiece_92 : decode cX6_movePiece 92 = .ok (.aaload, 1) := by decide +kernel
theorem dX6_movePiece_93 : decode cX6_movePiece 93 = .ok (.iload_n 1, 1) := by decide +kernel
theorem dX6_movePiece_94 : decode cX6_movePiece 94 = .ok (.iaload, 1) := by decide +kernel
theorem dX6_movePiece_95 : decode cX6_movePiece 95 = .ok (.ireturn, 1) := by decide +kernel
theorem dX6_movePiece_96 : decode cX6_movePiece 96 = .ok (.aload_n 0, 1) := by decide +kernel
theorem dX6_movePiece_97 : decode cX6_movePiece 97 = .ok (.iload_n 3, 1) := by decide +kernel
theorem dX6_movePiece_98 : decode cX6_movePiece 98 = .ok (.iload_n 1, 1) := by decide +kernel
theorem dX6_movePiece_99 : decode cX6_movePiece 99 = .ok (.aload_n 0, 1) := by decide +kernel
theorem dX6_movePiece_100 : decode cX6_movePiece 100 = .ok (.getfield 11, 3) := by decide +kernel
theorem dX6_movePiece_103 : decode cX6_movePiece 103 = .ok (.iload_n 2, 1) := by decide +kernel
theorem dX6_movePiece_104 : decode cX6_movePiece 104 = .ok (.aaload, 1) := by decide +kernel
theorem dX6_movePiece_105 : decode cX6_movePiece 105 = .ok (.iload_n 1, 1) := by decide +kernel
theorem dX6_movePiece_106 : decode cX6_movePiece 106 = .ok (.iaload, 1) := by decide +kernel
theorem dX6_movePiece_107 : decode cX6_movePiece 107 = .ok (.invokevirtual 100, 3) := by decide +kernel
theorem dX6_movePiece_110 : decode cX6_movePiece 110 = .ok (.pop, 1) := by decide +kernel
theorem dX6_movePiece_111 : decode cX6_movePiece 111 = .ok (.aload_n 0, 1) := by decide +kernel
theorem dX6_movePiece_112 : decode cX6_movePiece 112 = .ok (.getfield 11, 3) := by decide +kernel
theorem dX6_movePiece_115 : decode cX6_movePiece 115 = .ok (.iload_n 2, 1) := by decide +kernel
theorem dX6_movePiece_116 : decode cX6_movePiece 116 = .ok (.aaload, 1) := by decide +kernel
theorem dX6_movePiece_117 : decode cX6_movePiece 117 = .ok (.iload_n 1, 1) := by decide +kernel
theorem dX6_movePiece_118 : decode cX6_movePiece 118 = .ok (.iconst 0, 1) := by decide +kernel
theorem dX6_movePiece_119 : decode cX6_movePiece 119 = .ok (.iastore, 1) := by decide +kernel
theorem dX6_movePiece_120 : decode cX6_movePiece 120 = .ok (.aload_n 0, 1) := by decide +kernel
theorem dX6_movePiece_121 : decode cX6_movePiece 121 = .ok (.getfield 22, 3) := by decide +kernel
theorem dX6_movePiece_124 : decode cX6_movePiece 124 = .ok (.iload_n 2, 1) := by decide +kernel
theorem dX6_movePiece_125 : decode cX6_movePiece 125 = .ok (.aaload, 1) := by decide +kernel
theorem dX6_movePiece_126 : decode cX6_movePiece 126 = .ok (.iload_n 1, 1) := by decide +kernel
theorem dX6_movePiece_127 : decode cX6_movePiece 127 = .ok (.iconst 0, 1) := by decide +kernel
theorem dX6_movePiece_128 : decode cX6_movePiece 128 = .ok (.iastore, 1) := by decide +kernel
theorem dX6_movePiece_129 : decode cX6_movePiece 129 = .ok (.iconst 3, 1) := by decide +kernel
theorem dX6_movePiece_130 : decode cX6_movePiece 130 = .ok (.ireturn, 1) := by decide +kernel
theorem dX6_mendAll_0 : decode cX6_mendAll 0 = .ok (.iconst 0, 1) := by decide +kernel
theorem dX6_mendAll_1 : decode cX6_mendAll 1 = .ok (.istore_n 2, 1) := by decide +kernel
theorem dX6_mendAll_2 : decode cX6_mendAll 2 = .ok (.iconst 0, 1) := by decide +kernel
theorem dX6_mendAll_3 : decode cX6_mendAll 3 = .ok (.istore_n 3, 1) := by decide +kernel
theorem dX6_mendAll_4 : decode cX6_mendAll 4 = .ok (.iload_n 3, 1) := by decide +kernel
theorem dX6_mendAll_5 : decode cX6_mendAll 5 = .ok (.aload_n 0, 1) := by decide +kernel
theorem dX6_mendAll_6 : decode cX6_mendAll 6 = .ok (.getfield 46, 3) := by decide +kernel
theorem dX6_mendAll_9 : decode cX6_mendAll 9 = .ok (.getfield 123, 3) := by decide +kernel
theorem dX6_mendAll_12 : decode cX6_mendAll 12 = .ok (.if_icmp .ge 104, 3) := by decide +kernel
theorem dX6_mendAll_15 : decode cX6_mendAll 15 = .ok (.aload_n 0, 1) := by decide +kernel
theorem dX6_mendAll_16 : decode cX6_mendAll 16 = .ok (.iload_n 3, 1) := by decide +kernel
theorem dX6_mendAll_17 : decode cX6_mendAll 17 = .ok (.invokevirtual 135, 3) := by decide +kernel
theorem dX6_mendAll_20 : decode cX6_mendAll 20 = .ok (.istore 4, 2) := by decide +kernel
theorem dX6_mendAll_22 : decode cX6_mendAll 22 = .ok (.iload 4, 2) := by decide +kernel
theorem dX6_mendAll_24 : decode cX6_mendAll 24 = .ok (.ifCond .ne 6, 3) := by decide +kernel
theorem dX6_mendAll_27 : decode cX6_mendAll 27 = .ok (.goto 83, 3) := by decide +kernel
theorem dX6_mendAll_30 : decode cX6_mendAll 30 = .ok (.aload_n 0, 1) := by decide +kernel
theorem dX6_mendAll_31 : decode cX6_mendAll 31 = .ok (.getfield 50, 3) := by decide +kernel
theorem dX6_mendAll_34 : decode cX6_mendAll 34 = .ok (.aload_n 1, 1) := by decide +kernel
theorem dX6_mendAll_35 : decode cX6_mendAll 35 = .ok (.aload_n 0, 1) := by decide +kernel
theorem dX6_mendAll_36 : decode cX6_mendAll 36 = .ok (.getfield 46, 3) := by decide +kernel
theorem dX6_mendAll_39 : decode cX6_mendAll 39 = .ok (.iload_n 3, 1) := by decide +kernel
theorem dX6_mendAll_40 : decode cX6_mendAll 40 = .ok (.aload_n 1, 1) := by decide +kernel
theorem dX6_mendAll_41 : decode cX6_mendAll 41 = .ok (.getfield 54, 3) := by decide +kernel
theorem dX6_mendAll_44 : decode cX6_mendAll 44 = .ok (.invokevirtual 59, 3) := by decide +kernel
theorem dX6_mendAll_47 : decode cX6_mendAll 47 = .ok (.invokevirtual 65, 3) := by decide +kernel
theorem dX6_mendAll_50 : decode cX6_mendAll 50 = .ok (.iconst 0, 1) := by decide +kernel
theorem dX6_mendAll_51 : decode cX6_mendAll 51 = .ok (.istore 5, 2) := by decide +kernel
theorem dX6_mendAll_53 : decode cX6_mendAll 53 = .ok (.iload 5, 2) := by decide +kernel
theorem dX6_mendAll_55 : decode cX6_mendAll 55 = .ok (.aload_n 0, 1) := by decide +kernel
theorem dX6_mendAll_56 : decode cX6_mendAll 56 = .ok (.getfield 50, 3) := by decide +kernel
theorem dX6_mendAll_59 : decode cX6_mendAll 59 = .ok (.getfield 71, 3) := by decide +kernel
theorem dX6_mendAll_62 : decode cX6_mendAll 62 = .ok (.if_icmp .ge 48, 3) := by decide +kernel
theorem dX6_mendAll_65 : decode cX6_mendAll 65 = .ok (.aload_n 0, 1) := by decide +kernel
theorem dX6_mendAll_66 : decode cX6_mendAll 66 = .ok (.getfield 50, 3) := by decide +kernel
theorem dX6_mendAll_69 : decode cX6_mendAll 69 = .ok (.getfield 74, 3) := by decide +kernel
theorem dX6_mendAll_72 : decode cX6_mendAll 72 = .ok (.iload 5, 2) := by decide +kernel
theorem dX6_mendAll_74 : decode cX6_mendAll 74 = .ok (.iaload, 1) := by decide +kernel
theorem dX6_mendAll_75 : decode cX6_mendAll 75 = .ok (.istore 6, 2) := by decide +kernel
theorem dX6_mendAll_77 : decode cX6_mendAll 77 = .ok (.aload_n 0, 1) := by decide +kernel
theorem dX6_mendAll_78 : decode cX6_mendAll 78 = .ok (.getfield 42, 3) := by decide +kernel
theorem dX6_mendAll_81 : decode cX6_mendAll 81 = .ok (.iload 6, 2) := by decide +kernel
theorem dX6_mendAll_83 : decode cX6_mendAll 83 = .ok (.invokevirtual 117, 3) := by decide +kernel
theorem dX6_mendAll_86 : decode cX6_mendAll 86 = .ok (.ifCond .eq 18, 3) := by decide +kernel
theorem dX6_mendAll_89 : decode cX6_mendAll 89 = .ok (.aload_n 0, 1) := by decide +kernel
theorem dX6_mendAll_90 : decode cX6_mendAll 90 = .ok (.iload 6, 2) := by decide +kernel
theorem dX6_mendAll_92 : decode cX6_mendAll 92 = .ok (.iload_n 3, 1) := by decide +kernel
theorem dX6_mendAll_93 : decode cX6_mendAll 93 = .ok (.iload 4, 2) := by decide +kernel
theorem dX6_mendAll_95 : decode cX6_mendAll 95 = .ok (.invokevirtual 93, 3) := by decide +kernel
theorem dX6_mendAll_98 : decode cX6_mendAll 98 = .ok (.ifCond .eq 6, 3) := by decide +kernel
theorem dX6_mendAll_101 : decode cX6_mendAll 101 = .ok (.iinc 2 1, 3) := by decide +kernel
theorem dX6_mendAll_104 : decode cX6_mendAll 104 = .ok (.iinc 5 1, 3) := by decide +kernel
theorem dX6_mendAll_107 : decode cX6_mendAll 107 = .ok (.goto (-54), 3) := by decide +kernel
theorem dX6_mendAll_110 : decode cX6_mendAll 110 = .ok (.iinc 3 1, 3) := by decide +kernel
theorem dX6_mendAll_113 : decode cX6_mendAll 113 = .ok (.goto (-109), 3) := by decide +kernel
theorem dX6_mendAll_116 : decode cX6_mendAll 116 = .ok (.iload_n 2, 1) := by decide +kernel
theorem dX6_mendAll_117 : decode cX6_mendAll 117 = .ok (.ireturn, 1) := by decide +kernel
theorem dX6_greatestAnywhere_0 : decode cX6_greatestAnywhere 0 = .ok (.iconst 0, 1) := by decide +kernel
theorem dX6_greatestAnywhere_1 : decode cX6_greatestAnywhere 1 = .ok (.istore_n 2, 1) := by decide +kernel
theorem dX6_greatestAnywhere_2 : decode cX6_greatestAnywhere 2 = .ok (.iconst 0, 1) := by decide +kernel
theorem dX6_greatestAnywhere_3 : decode cX6_greatestAnywhere 3 = .ok (.istore_n 3, 1) := by decide +kernel
theorem dX6_greatestAnywhere_4 : decode cX6_greatestAnywhere 4 = .ok (.iload_n 3, 1) := by decide +kernel
theorem dX6_greatestAnywhere_5 : decode cX6_greatestAnywhere 5 = .ok (.aload_n 0, 1) := by decide +kernel
theorem dX6_greatestAnywhere_6 : decode cX6_greatestAnywhere 6 = .ok (.getfield 42, 3) := by decide +kernel
theorem dX6_greatestAnywhere_9 : decode cX6_greatestAnywhere 9 = .ok (.getfield 120, 3) := by decide +kernel
theorem dX6_greatestAnywhere_12 : decode cX6_greatestAnywhere 12 = .ok (.if_icmp .ge 34, 3) := by decide +kernel
theorem dX6_greatestAnywhere_15 : decode cX6_greatestAnywhere 15 = .ok (.aload_n 0, 1) := by decide +kernel
theorem dX6_greatestAnywhere_16 : decode cX6_greatestAnywhere 16 = .ok (.getfield 42, 3) := by decide +kernel
theorem dX6_greatestAnywhere_19 : decode cX6_greatestAnywhere 19 = .ok (.getfield 81, 3) := by decide +kernel
theorem dX6_greatestAnywhere_22 : decode cX6_greatestAnywhere 22 = .ok (.iload_n 3, 1) := by decide +kernel
theorem dX6_greatestAnywhere_23 : decode cX6_greatestAnywhere 23 = .ok (.baload, 1) := by decide +kernel
theorem dX6_greatestAnywhere_24 : decode cX6_greatestAnywhere 24 = .ok (.ifCond .ne 16, 3) := by decide +kernel
theorem dX6_greatestAnywhere_27 : decode cX6_greatestAnywhere 27 = .ok (.iload_n 2, 1) := by decide +kernel
theorem dX6_greatestAnywhere_28 : decode cX6_greatestAnywhere 28 = .ok (.aload_n 0, 1) := by decide +kernel
theorem dX6_greatestAnywhere_29 : decode cX6_greatestAnywhere 29 = .ok (.getfield 11, 3) := by decide +kernel
theorem dX6_greatestAnywhere_32 : decode cX6_greatestAnywhere 32 = .ok (.iload_n 3, 1) := by decide +kernel
theorem dX6_greatestAnywhere_33 : decode cX6_greatestAnywhere 33 = .ok (.aaload, 1) := by decide +kernel
theorem dX6_greatestAnywhere_34 : decode cX6_greatestAnywhere 34 = .ok (.iload_n 1, 1) := by decide +kernel
theorem dX6_greatestAnywhere_35 : decode cX6_greatestAnywhere 35 = .ok (.iaload, 1) := by decide +kernel
theorem dX6_greatestAnywhere_36 : decode cX6_greatestAnywhere 36 = .ok (.invokestatic 130, 3) := by decide +kernel
theorem dX6_greatestAnywhere_39 : decode cX6_greatestAnywhere 39 = .ok (.istore_n 2, 1) := by decide +kernel
theorem dX6_greatestAnywhere_40 : decode cX6_greatestAnywhere 40 = .ok (.iinc 3 1, 3) := by decide +kernel
theorem dX6_greatestAnywhere_43 : decode cX6_greatestAnywhere 43 = .ok (.goto (-39), 3) := by decide +kernel
theorem dX6_greatestAnywhere_46 : decode cX6_greatestAnywhere 46 = .ok (.iload_n 2, 1) := by decide +kernel
theorem dX6_greatestAnywhere_47 : decode cX6_greatestAnywhere 47 = .ok (.ireturn, 1) := by decide +kernel
theorem dX6_compare_0 : decode cX6_compare 0 = .ok (.aload_n 0, 1) := by decide +kernel
theorem dX6_compare_1 : decode cX6_compare 1 = .ok (.aload_n 0, 1) := by decide +kernel
theorem dX6_compare_2 : decode cX6_compare 2 = .ok (.getfield 32, 3) := by decide +kernel
theorem dX6_compare_5 : decode cX6_compare 5 = .ok (.iload_n 1, 1) := by decide +kernel
theorem dX6_compare_6 : decode cX6_compare 6 = .ok (.invokevirtual 138, 3) := by decide +kernel
theorem dX6_compare_9 : decode cX6_compare 9 = .ok (.aload_n 0, 1) := by decide +kernel
theorem dX6_compare_10 : decode cX6_compare 10 = .ok (.aload_n 0, 1) := by decide +kernel
theorem dX6_compare_11 : decode cX6_compare 11 = .ok (.getfield 35, 3) := by decide +kernel
theorem dX6_compare_14 : decode cX6_compare 14 = .ok (.iload_n 2, 1) := by decide +kernel
theorem dX6_compare_15 : decode cX6_compare 15 = .ok (.invokevirtual 138, 3) := by decide +kernel
theorem dX6_compare_18 : decode cX6_compare 18 = .ok (.return_, 1) := by decide +kernel
theorem dX6_grow_0 : decode cX6_grow 0 = .ok (.aload_n 1, 1) := by decide +kernel
theorem dX6_grow_1 : decode cX6_grow 1 = .ok (.iconst 0, 1) := by decide +kernel
theorem dX6_grow_2 : decode cX6_grow 2 = .ok (.invokestatic 124, 3) := by decide +kernel
theorem dX6_grow_5 : decode cX6_grow 5 = .ok (.iconst 0, 1) := by decide +kernel
theorem dX6_grow_6 : decode cX6_grow 6 = .ok (.istore_n 3, 1) := by decide +kernel
theorem dX6_grow_7 : decode cX6_grow 7 = .ok (.iload_n 3, 1) := by decide +kernel
theorem dX6_grow_8 : decode cX6_grow 8 = .ok (.aload_n 0, 1) := by decide +kernel
theorem dX6_grow_9 : decode cX6_grow 9 = .ok (.getfield 46, 3) := by decide +kernel
theorem dX6_grow_12 : decode cX6_grow 12 = .ok (.getfield 123, 3) := by decide +kernel
theorem dX6_grow_15 : decode cX6_grow 15 = .ok (.if_icmp .ge 33, 3) := by decide +kernel
theorem dX6_grow_18 : decode cX6_grow 18 = .ok (.aload_n 1, 1) := by decide +kernel
theorem dX6_grow_19 : decode cX6_grow 19 = .ok (.bipush 8, 2) := by decide +kernel
theorem dX6_grow_21 : decode cX6_grow 21 = .ok (.iload_n 3, 1) := by decide +kernel
theorem dX6_grow_22 : decode cX6_grow 22 = .ok (.bipush 8, 2) := by decide +kernel
theorem dX6_grow_24 : decode cX6_grow 24 = .ok (.irem, 1) := by decide +kernel
theorem dX6_grow_25 : decode cX6_grow 25 = .ok (.iadd, 1) := by decide +kernel
theorem dX6_grow_26 : decode cX6_grow 26 = .ok (.dup2, 1) := by decide +kernel
theorem dX6_grow_27 : decode cX6_grow 27 = .ok (.iaload, 1) := by decide +kernel
theorem dX6_grow_28 : decode cX6_grow 28 = .ok (.iload_n 3, 1) := by decide +kernel
theorem dX6_grow_29 : decode cX6_grow 29 = .ok (.iconst 1, 1) := by decide +kernel
theorem dX6_grow_30 : decode cX6_grow 30 = .ok (.iadd, 1) := by decide +kernel
theorem dX6_grow_31 : decode cX6_grow 31 = .ok (.aload_n 0, 1) := by decide +kernel
theorem dX6_grow_32 : decode cX6_grow 32 = .ok (.getfield 11, 3) := by decide +kernel
theorem dX6_grow_35 : decode cX6_grow 35 = .ok (.iload_n 2, 1) := by decide +kernel
theorem dX6_grow_36 : decode cX6_grow 36 = .ok (.aaload, 1) := by decide +kernel
theorem dX6_grow_37 : decode cX6_grow 37 = .ok (.iload_n 3, 1) := by decide +kernel
theorem dX6_grow_38 : decode cX6_grow 38 = .ok (.iaload, 1) := by decide +kernel
theorem dX6_grow_39 : decode cX6_grow 39 = .ok (.imul, 1) := by decide +kernel
theorem dX6_grow_40 : decode cX6_grow 40 = .ok (.iadd, 1) := by decide +kernel
theorem dX6_grow_41 : decode cX6_grow 41 = .ok (.iastore, 1) := by decide +kernel
theorem dX6_grow_42 : decode cX6_grow 42 = .ok (.iinc 3 1, 3) := by decide +kernel
theorem dX6_grow_45 : decode cX6_grow 45 = .ok (.goto (-38), 3) := by decide +kernel
theorem dX6_grow_48 : decode cX6_grow 48 = .ok (.bipush 7, 2) := by decide +kernel
theorem dX6_grow_50 : decode cX6_grow 50 = .ok (.istore_n 3, 1) := by decide +kernel
theorem dX6_grow_51 : decode cX6_grow 51 = .ok (.iload_n 3, 1) := by decide +kernel
theorem dX6_grow_52 : decode cX6_grow 52 = .ok (.iconst 1, 1) := by decide +kernel
theorem dX6_grow_53 : decode cX6_grow 53 = .ok (.if_icmp .lt 25, 3) := by decide +kernel
theorem dX6_grow_56 : decode cX6_grow 56 = .ok (.aload_n 1, 1) := by decide +kernel
theorem dX6_grow_57 : decode cX6_grow 57 = .ok (.iload_n 3, 1) := by decide +kernel
theorem dX6_grow_58 : decode cX6_grow 58 = .ok (.aload_n 1, 1) := by decide +kernel
theorem dX6_grow_59 : decode cX6_grow 59 = .ok (.iconst 2, 1) := by decide +kernel
theorem dX6_grow_60 : decode cX6_grow 60 = .ok (.iload_n 3, 1) := by decide +kernel
theorem dX6_grow_61 : decode cX6_grow 61 = .ok (.imul, 1) := by decide +kernel
theorem dX6_grow_62 : decode cX6_grow 62 = .ok (.iaload, 1) := by decide +kernel
theorem dX6_grow_63 : decode cX6_grow 63 = .ok (.aload_n 1, 1) := by decide +kernel
theorem dX6_grow_64 : decode cX6_grow 64 = .ok (.iconst 2, 1) := by decide +kernel
theorem dX6_grow_65 : decode cX6_grow 65 = .ok (.iload_n 3, 1) := by decide +kernel
theorem dX6_grow_66 : decode cX6_grow 66 = .ok (.imul, 1) := by decide +kernel
theorem dX6_grow_67 : decode cX6_grow 67 = .ok (.iconst 1, 1) := by decide +kernel
theorem dX6_grow_68 : decode cX6_grow 68 = .ok (.iadd, 1) := by decide +kernel
theorem dX6_grow_69 : decode cX6_grow 69 = .ok (.iaload, 1) := by decide +kernel
theorem dX6_grow_70 : decode cX6_grow 70 = .ok (.iadd, 1) := by decide +kernel
theorem dX6_grow_71 : decode cX6_grow 71 = .ok (.iastore, 1) := by decide +kernel
theorem dX6_grow_72 : decode cX6_grow 72 = .ok (.iinc 3 (-1), 3) := by decide +kernel
theorem dX6_grow_75 : decode cX6_grow 75 = .ok (.goto (-24), 3) := by decide +kernel
theorem dX6_grow_78 : decode cX6_grow 78 = .ok (.return_, 1) := by decide +kernel
theorem dX6_wordsAsked_0 : decode cX6_wordsAsked 0 = .ok (.iconst 1, 1) := by decide +kernel
theorem dX6_wordsAsked_1 : decode cX6_wordsAsked 1 = .ok (.istore_n 1, 1) := by decide +kernel
theorem dX6_wordsAsked_2 : decode cX6_wordsAsked 2 = .ok (.iconst 2, 1) := by decide +kernel
theorem dX6_wordsAsked_3 : decode cX6_wordsAsked 3 = .ok (.istore_n 2, 1) := by decide +kernel
theorem dX6_wordsAsked_4 : decode cX6_wordsAsked 4 = .ok (.iconst 1, 1) := by decide +kernel
theorem dX6_wordsAsked_5 : decode cX6_wordsAsked 5 = .ok (.istore_n 3, 1) := by decide +kernel
theorem dX6_wordsAsked_6 : decode cX6_wordsAsked 6 = .ok (.iload_n 3, 1) := by decide +kernel
theorem dX6_wordsAsked_7 : decode cX6_wordsAsked 7 = .ok (.bipush 8, 2) := by decide +kernel
theorem dX6_wordsAsked_9 : decode cX6_wordsAsked 9 = .ok (.if_icmp .ge 46, 3) := by decide +kernel
theorem dX6_wordsAsked_12 : decode cX6_wordsAsked 12 = .ok (.iload_n 2, 1) := by decide +kernel
theorem dX6_wordsAsked_13 : decode cX6_wordsAsked 13 = .ok (.iload_n 3, 1) := by decide +kernel
theorem dX6_wordsAsked_14 : decode cX6_wordsAsked 14 = .ok (.ishr, 1) := by decide +kernel
theorem dX6_wordsAsked_15 : decode cX6_wordsAsked 15 = .ok (.iconst 1, 1) := by decide +kernel
theorem dX6_wordsAsked_16 : decode cX6_wordsAsked 16 = .ok (.iand, 1) := by decide +kernel
theorem dX6_wordsAsked_17 : decode cX6_wordsAsked 17 = .ok (.ifCond .eq 32, 3) := by decide +kernel
theorem dX6_wordsAsked_20 : decode cX6_wordsAsked 20 = .ok (.aload_n 0, 1) := by decide +kernel
theorem dX6_wordsAsked_21 : decode cX6_wordsAsked 21 = .ok (.getfield 32, 3) := by decide +kernel
theorem dX6_wordsAsked_24 : decode cX6_wordsAsked 24 = .ok (.iload_n 3, 1) := by decide +kernel
theorem dX6_wordsAsked_25 : decode cX6_wordsAsked 25 = .ok (.iaload, 1) := by decide +kernel
theorem dX6_wordsAsked_26 : decode cX6_wordsAsked 26 = .ok (.aload_n 0, 1) := by decide +kernel
theorem dX6_wordsAsked_27 : decode cX6_wordsAsked 27 = .ok (.getfield 35, 3) := by decide +kernel
theorem dX6_wordsAsked_30 : decode cX6_wordsAsked 30 = .ok (.iload_n 3, 1) := by decide +kernel
theorem dX6_wordsAsked_31 : decode cX6_wordsAsked 31 = .ok (.iaload, 1) := by decide +kernel
theorem dX6_wordsAsked_32 : decode cX6_wordsAsked 32 = .ok (.if_icmp .ne 6, 3) := by decide +kernel
theorem dX6_wordsAsked_35 : decode cX6_wordsAsked 35 = .ok (.goto 14, 3) := by decide +kernel
theorem dX6_wordsAsked_38 : decode cX6_wordsAsked 38 = .ok (.iinc 1 2, 3) := by decide +kernel
theorem dX6_wordsAsked_41 : decode cX6_wordsAsked 41 = .ok (.iload_n 2, 1) := by decide +kernel
theorem dX6_wordsAsked_42 : decode cX6_wordsAsked 42 = .ok (.iconst 3, 1) := by decide +kernel
theorem dX6_wordsAsked_43 : decode cX6_wordsAsked 43 = .ok (.iconst 2, 1) := by decide +kernel
theorem dX6_wordsAsked_44 : decode cX6_wordsAsked 44 = .ok (.iload_n 3, 1) := by decide +kernel
theorem dX6_wordsAsked_45 : decode cX6_wordsAsked 45 = .ok (.imul, 1) := by decide +kernel
theorem dX6_wordsAsked_46 : decode cX6_wordsAsked 46 = .ok (.ishl, 1) := by decide +kernel
theorem dX6_wordsAsked_47 : decode cX6_wordsAsked 47 = .ok (.ior, 1) := by decide +kernel
theorem dX6_wordsAsked_48 : decode cX6_wordsAsked 48 = .ok (.istore_n 2, 1) := by decide +kernel
theorem dX6_wordsAsked_49 : decode cX6_wordsAsked 49 = .ok (.iinc 3 1, 3) := by decide +kernel
theorem dX6_wordsAsked_52 : decode cX6_wordsAsked 52 = .ok (.goto (-46), 3) := by decide +kernel
theorem dX6_wordsAsked_55 : decode cX6_wordsAsked 55 = .ok (.iload_n 1, 1) := by decide +kernel
theorem dX6_wordsAsked_56 : decode cX6_wordsAsked 56 = .ok (.ireturn, 1) := by decide +kernel
theorem dX6_unlikeLeaves_0 : decode cX6_unlikeLeaves 0 = .ok (.iconst 0, 1) := by decide +kernel
theorem dX6_unlikeLeaves_1 : decode cX6_unlikeLeaves 1 = .ok (.istore_n 1, 1) := by decide +kernel
theorem dX6_unlikeLeaves_2 : decode cX6_unlikeLeaves 2 = .ok (.bipush 8, 2) := by decide +kernel
theorem dX6_unlikeLeaves_4 : decode cX6_unlikeLeaves 4 = .ok (.istore_n 2, 1) := by decide +kernel
theorem dX6_unlikeLeaves_5 : decode cX6_unlikeLeaves 5 = .ok (.iload_n 2, 1) := by decide +kernel
theorem dX6_unlikeLeaves_6 : decode cX6_unlikeLeaves 6 = .ok (.bipush 16, 2) := by decide +kernel
theorem dX6_unlikeLeaves_8 : decode cX6_unlikeLeaves 8 = .ok (.if_icmp .ge 27, 3) := by decide +kernel
theorem dX6_unlikeLeaves_11 : decode cX6_unlikeLeaves 11 = .ok (.aload_n 0, 1) := by decide +kernel
theorem dX6_unlikeLeaves_12 : decode cX6_unlikeLeaves 12 = .ok (.getfield 32, 3) := by decide +kernel
theorem dX6_unlikeLeaves_15 : decode cX6_unlikeLeaves 15 = .ok (.iload_n 2, 1) := by decide +kernel
theorem dX6_unlikeLeaves_16 : decode cX6_unlikeLeaves 16 = .ok (.iaload, 1) := by decide +kernel
theorem dX6_unlikeLeaves_17 : decode cX6_unlikeLeaves 17 = .ok (.aload_n 0, 1) := by decide +kernel
theorem dX6_unlikeLeaves_18 : decode cX6_unlikeLeaves 18 = .ok (.getfield 35, 3) := by decide +kernel
theorem dX6_unlikeLeaves_21 : decode cX6_unlikeLeaves 21 = .ok (.iload_n 2, 1) := by decide +kernel
theorem dX6_unlikeLeaves_22 : decode cX6_unlikeLeaves 22 = .ok (.iaload, 1) := by decide +kernel
theorem dX6_unlikeLeaves_23 : decode cX6_unlikeLeaves 23 = .ok (.if_icmp .eq 6, 3) := by decide +kernel
theorem dX6_unlikeLeaves_26 : decode cX6_unlikeLeaves 26 = .ok (.iinc 1 1, 3) := by decide +kernel
theorem dX6_unlikeLeaves_29 : decode cX6_unlikeLeaves 29 = .ok (.iinc 2 1, 3) := by decide +kernel
theorem dX6_unlikeLeaves_32 : decode cX6_unlikeLeaves 32 = .ok (.goto (-27), 3) := by decide +kernel
theorem dX6_unlikeLeaves_35 : decode cX6_unlikeLeaves 35 = .ok (.iload_n 1, 1) := by decide +kernel
theorem dX6_unlikeLeaves_36 : decode cX6_unlikeLeaves 36 = .ok (.ireturn, 1) := by decide +kernel
theorem dX6_copiesOn_0 : decode cX6_copiesOn 0 = .ok (.aload_n 0, 1) := by decide +kernel
theorem dX6_copiesOn_1 : decode cX6_copiesOn 1 = .ok (.getfield 11, 3) := by decide +kernel
theorem dX6_copiesOn_4 : decode cX6_copiesOn 4 = .ok (.iload_n 1, 1) := by decide +kernel
theorem dX6_copiesOn_5 : decode cX6_copiesOn 5 = .ok (.aaload, 1) := by decide +kernel
theorem dX6_copiesOn_6 : decode cX6_copiesOn 6 = .ok (.invokestatic 141, 3) := by decide +kernel
theorem dX6_copiesOn_9 : decode cX6_copiesOn 9 = .ok (.ireturn, 1) := by decide +kernel
theorem dX6_keptBy_0 : decode cX6_keptBy 0 = .ok (.aload_n 0, 1) := by decide +kernel
theorem dX6_keptBy_1 : decode cX6_keptBy 1 = .ok (.getfield 16, 3) := by decide +kernel
theorem dX6_keptBy_4 : decode cX6_keptBy 4 = .ok (.iload_n 1, 1) := by decide +kernel
theorem dX6_keptBy_5 : decode cX6_keptBy 5 = .ok (.aaload, 1) := by decide +kernel
theorem dX6_keptBy_6 : decode cX6_keptBy 6 = .ok (.invokestatic 141, 3) := by decide +kernel
theorem dX6_keptBy_9 : decode cX6_keptBy 9 = .ok (.ireturn, 1) := by decide +kernel
theorem dX6_allCopies_15 : decode cX6_allCopies 15 = .ok (.iload_n 1, 1) := by decide +kernel
theorem dX6_allCopies_16 : decode cX6_allCopies 16 = .ok (.aload_n 0, 1) := by decide +kernel
theorem dX6_allCopies_17 : decode cX6_allCopies 17 = .ok (.iload_n 2, 1) := by decide +kernel
theorem dX6_allCopies_18 : decode cX6_allCopies 18 = .ok (.invokevirtual 103, 3) := by decide +kernel
theorem dX6_allCopies_21 : decode cX6_allCopies 21 = .ok (.iadd, 1) := by decide +kernel
theorem dX6_allCopies_22 : decode cX6_allCopies 22 = .ok (.istore_n 1, 1) := by decide +kernel
theorem dX6_allCopies_23 : decode cX6_allCopies 23 = .ok (.iinc 2 1, 3) := by decide +kernel
theorem dX6_allCopies_26 : decode cX6_allCopies 26 = .ok (.goto (-22), 3) := by decide +kernel
theorem dX6_allKept_15 : decode cX6_allKept 15 = .ok (.iload_n 1, 1) := by decide +kernel
theorem dX6_allKept_16 : decode cX6_allKept 16 = .ok (.aload_n 0, 1) := by decide +kernel
theorem dX6_allKept_17 : decode cX6_allKept 17 = .ok (.iload_n 2, 1) := by decide +kernel
theorem dX6_allKept_18 : decode cX6_allKept 18 = .ok (.invokevirtual 145, 3) := by decide +kernel
theorem dX6_allKept_21 : decode cX6_allKept 21 = .ok (.iadd, 1) := by decide +kernel
theorem dX6_allKept_22 : decode cX6_allKept 22 = .ok (.istore_n 1, 1) := by decide +kernel
theorem dX6_allKept_23 : decode cX6_allKept 23 = .ok (.iinc 2 1, 3) := by decide +kernel
theorem dX6_allKept_26 : decode cX6_allKept 26 = .ok (.goto (-22), 3) := by decide +kernel
theorem dX6_filled_0 : decode cX6_filled 0 = .ok (.iconst 0, 1) := by decide +kernel
theorem dX6_filled_1 : decode cX6_filled 1 = .ok (.istore_n 1, 1) := by decide +kernel
theorem dX6_filled_2 : decode cX6_filled 2 = .ok (.aload_n 0, 1) := by decide +kernel
theorem dX6_filled_3 : decode cX6_filled 3 = .ok (.astore_n 2, 1) := by decide +kernel
theorem dX6_filled_4 : decode cX6_filled 4 = .ok (.aload_n 2, 1) := by decide +kernel
theorem dX6_filled_5 : decode cX6_filled 5 = .ok (.arraylength, 1) := by decide +kernel
theorem dX6_filled_6 : decode cX6_filled 6 = .ok (.istore_n 3, 1) := by decide +kernel
theorem dX6_filled_7 : decode cX6_filled 7 = .ok (.iconst 0, 1) := by decide +kernel
theorem dX6_filled_8 : decode cX6_filled 8 = .ok (.istore 4, 2) := by decide +kernel
theorem dX6_filled_10 : decode cX6_filled 10 = .ok (.iload 4, 2) := by decide +kernel
theorem dX6_filled_12 : decode cX6_filled 12 = .ok (.iload_n 3, 1) := by decide +kernel
theorem dX6_filled_13 : decode cX6_filled 13 = .ok (.if_icmp .ge 23, 3) := by decide +kernel
theorem dX6_filled_16 : decode cX6_filled 16 = .ok (.aload_n 2, 1) := by decide +kernel
theorem dX6_filled_17 : decode cX6_filled 17 = .ok (.iload 4, 2) := by decide +kernel
theorem dX6_filled_19 : decode cX6_filled 19 = .ok (.iaload, 1) := by decide +kernel
theorem dX6_filled_20 : decode cX6_filled 20 = .ok (.istore 5, 2) := by decide +kernel
theorem dX6_filled_22 : decode cX6_filled 22 = .ok (.iload 5, 2) := by decide +kernel
theorem dX6_filled_24 : decode cX6_filled 24 = .ok (.ifCond .le 6, 3) := by decide +kernel
theorem dX6_filled_27 : decode cX6_filled 27 = .ok (.iinc 1 1, 3) := by decide +kernel
theorem dX6_filled_30 : decode cX6_filled 30 = .ok (.iinc 4 1, 3) := by decide +kernel
theorem dX6_filled_33 : decode cX6_filled 33 = .ok (.goto (-23), 3) := by decide +kernel
theorem dX6_filled_36 : decode cX6_filled 36 = .ok (.iload_n 1, 1) := by decide +kernel
theorem dX6_filled_37 : decode cX6_filled 37 = .ok (.ireturn, 1) := by decide +kernel
theorem dX7_isRow_0 : decode cX7_isRow 0 = .ok (.aload_n 0, 1) := by decide +kernel
theorem dX7_isRow_1 : decode cX7_isRow 1 = .ok (.getfield 15, 3) := by decide +kernel
theorem dX7_isRow_4 : decode cX7_isRow 4 = .ok (.iload_n 1, 1) := by decide +kernel
theorem dX7_isRow_5 : decode cX7_isRow 5 = .ok (.iaload, 1) := by decide +kernel
theorem dX7_isRow_6 : decode cX7_isRow 6 = .ok (.iconst (-1), 1) := by decide +kernel
theorem dX7_isRow_7 : decode cX7_isRow 7 = .ok (.if_icmp .eq 7, 3) := by decide +kernel
theorem dX7_isRow_10 : decode cX7_isRow 10 = .ok (.iconst 1, 1) := by decide +kernel
theorem dX7_isRow_11 : decode cX7_isRow 11 = .ok (.goto 4, 3) := by decide +kernel
theorem dX7_isRow_14 : decode cX7_isRow 14 = .ok (.iconst 0, 1) := by decide +kernel
theorem dX7_isRow_15 : decode cX7_isRow 15 = .ok (.ireturn, 1) := by decide +kernel
theorem dX7_isEmpty_24 : decode cX7_isEmpty 24 = .ok (.iconst 0, 1) := by decide +kernel
theorem dX7_refusalAt_11 : decode cX7_refusalAt 11 = .ok (.aload_n 0, 1) := by decide +kernel
theorem dX7_refusalAt_12 : decode cX7_refusalAt 12 = .ok (.iload_n 1, 1) := by decide +kernel
theorem dX7_refusalAt_13 : decode cX7_refusalAt 13 = .ok (.invokevirtual 39, 3) := by decide +kernel
theorem dX7_refusalAt_16 : decode cX7_refusalAt 16 = .ok (.ifCond .ne 6, 3) := by decide +kernel
theorem dX7_refusalAt_19 : decode cX7_refusalAt 19 = .ok (.bipush (-12), 2) := by decide +kernel
theorem dX7_refusalAt_21 : decode cX7_refusalAt 21 = .ok (.ireturn, 1) := by decide +kernel
theorem dX7_refusalAt_22 : decode cX7_refusalAt 22 = .ok (.iload_n 2, 1) := by decide +kernel
theorem dX7_refusalAt_23 : decode cX7_refusalAt 23 = .ok (.ifCond .lt 17, 3) := by decide +kernel
theorem dX7_refusalAt_26 : decode cX7_refusalAt 26 = .ok (.iload_n 2, 1) := by decide +kernel
theorem dX7_refusalAt_27 : decode cX7_refusalAt 27 = .ok (.aload_n 0, 1) := by decide +kernel
theorem dX7_refusalAt_28 : decode cX7_refusalAt 28 = .ok (.getfield 18, 3) := by decide +kernel
theorem dX7_refusalAt_31 : decode cX7_refusalAt 31 = .ok (.iload_n 1, 1) := by decide +kernel
theorem dX7_refusalAt_32 : decode cX7_refusalAt 32 = .ok (.iaload, 1) := by decide +kernel
theorem dX7_refusalAt_33 : decode cX7_refusalAt 33 = .ok (.if_icmp .ge 7, 3) := by decide +kernel
theorem dX7_refusalAt_36 : decode cX7_refusalAt 36 = .ok (.iconst 0, 1) := by decide +kernel
theorem dX7_refusalAt_37 : decode cX7_refusalAt 37 = .ok (.goto 5, 3) := by decide +kernel
theorem dX7_refusalAt_40 : decode cX7_refusalAt 40 = .ok (.bipush (-13), 2) := by decide +kernel
theorem dX7_refusalAt_42 : decode cX7_refusalAt 42 = .ok (.ireturn, 1) := by decide +kernel
theorem dX7_spans_0 : decode cX7_spans 0 = .ok (.iload_n 2, 1) := by decide +kernel
theorem dX7_spans_1 : decode cX7_spans 1 = .ok (.ifCond .lt 33, 3) := by decide +kernel
theorem dX7_spans_4 : decode cX7_spans 4 = .ok (.iload_n 3, 1) := by decide +kernel
theorem dX7_spans_5 : decode cX7_spans 5 = .ok (.ifCond .lt 29, 3) := by decide +kernel
theorem dX7_spans_8 : decode cX7_spans 8 = .ok (.iload_n 2, 1) := by decide +kernel
theorem dX7_spans_9 : decode cX7_spans 9 = .ok (.aload_n 0, 1) := by decide +kernel
theorem dX7_spans_10 : decode cX7_spans 10 = .ok (.getfield 18, 3) := by decide +kernel
theorem dX7_spans_13 : decode cX7_spans 13 = .ok (.iload_n 1, 1) := by decide +kernel
theorem dX7_spans_14 : decode cX7_spans 14 = .ok (.iaload, 1) := by decide +kernel
theorem dX7_spans_15 : decode cX7_spans 15 = .ok (.if_icmp .gt 19, 3) := by decide +kernel
theorem dX7_spans_18 : decode cX7_spans 18 = .ok (.iload_n 3, 1) := by decide +kernel
theorem dX7_spans_19 : decode cX7_spans 19 = .ok (.aload_n 0, 1) := by decide +kernel
theorem dX7_spans_20 : decode cX7_spans 20 = .ok (.getfield 18, 3) := by decide +kernel
theorem dX7_spans_23 : decode cX7_spans 23 = .ok (.iload_n 1, 1) := by decide +kernel
theorem dX7_spans_24 : decode cX7_spans 24 = .ok (.iaload, 1) := by decide +kernel
theorem dX7_spans_25 : decode cX7_spans 25 = .ok (.iload_n 2, 1) := by decide +kernel
theorem dX7_spans_26 : decode cX7_spans 26 = .ok (.isub, 1) := by decide +kernel
theorem dX7_spans_27 : decode cX7_spans 27 = .ok (.if_icmp .gt 7, 3) := by decide +kernel
theorem dX7_spans_30 : decode cX7_spans 30 = .ok (.iconst 1, 1) := by decide +kernel
theorem dX7_spans_31 : decode cX7_spans 31 = .ok (.goto 4, 3) := by decide +kernel
theorem dX7_spans_34 : decode cX7_spans 34 = .ok (.iconst 0, 1) := by decide +kernel
theorem dX7_spans_35 : decode cX7_spans 35 = .ok (.ireturn, 1) := by decide +kernel
theorem dX7_lowest_0 : decode cX7_lowest 0 = .ok (.iload_n 0, 1) := by decide +kernel
theorem dX7_lowest_1 : decode cX7_lowest 1 = .ok (.tableswitch 61 0 4 #[35, 40, 45, 61, 49], 35) := by decide +kernel
theorem dX7_lowest_36 : decode cX7_lowest 36 = .ok (.lload_n 1, 1) := by decide +kernel
theorem dX7_lowest_37 : decode cX7_lowest 37 = .ok (.l2i, 1) := by decide +kernel
theorem dX7_lowest_38 : decode cX7_lowest 38 = .ok (.i2b, 1) := by decide +kernel
theorem dX7_lowest_39 : decode cX7_lowest 39 = .ok (.i2l, 1) := by decide +kernel
theorem dX7_lowest_40 : decode cX7_lowest 40 = .ok (.lreturn, 1) := by decide +kernel
theorem dX7_lowest_41 : decode cX7_lowest 41 = .ok (.lload_n 1, 1) := by decide +kernel
theorem dX7_lowest_42 : decode cX7_lowest 42 = .ok (.l2i, 1) := by decide +kernel
theorem dX7_lowest_43 : decode cX7_lowest 43 = .ok (.i2s, 1) := by decide +kernel
theorem dX7_lowest_44 : decode cX7_lowest 44 = .ok (.i2l, 1) := by decide +kernel
theorem dX7_lowest_45 : decode cX7_lowest 45 = .ok (.lreturn, 1) := by decide +kernel
theorem dX7_lowest_46 : decode cX7_lowest 46 = .ok (.lload_n 1, 1) := by decide +kernel
theorem dX7_lowest_47 : decode cX7_lowest 47 = .ok (.l2i, 1) := by decide +kernel
theorem dX7_lowest_48 : decode cX7_lowest 48 = .ok (.i2l, 1) := by decide +kernel
theorem dX7_lowest_49 : decode cX7_lowest 49 = .ok (.lreturn, 1) := by decide +kernel
theorem dX7_lowest_50 : decode cX7_lowest 50 = .ok (.lload_n 1, 1) := by decide +kernel
theorem dX7_lowest_51 : decode cX7_lowest 51 = .ok (.lconst 0, 1) := by decide +kernel
theorem dX7_lowest_52 : decode cX7_lowest 52 = .ok (.lcmp, 1) := by decide +kernel
theorem dX7_lowest_53 : decode cX7_lowest 53 = .ok (.ifCond .eq 7, 3) := by decide +kernel
theorem dX7_lowest_56 : decode cX7_lowest 56 = .ok (.lconst 1, 1) := by decide +kernel
theorem dX7_lowest_57 : decode cX7_lowest 57 = .ok (.goto 4, 3) := by decide +kernel
theorem dX7_lowest_60 : decode cX7_lowest 60 = .ok (.lconst 0, 1) := by decide +kernel
theorem dX7_lowest_61 : decode cX7_lowest 61 = .ok (.lreturn, 1) := by decide +kernel
theorem dX7_lowest_62 : decode cX7_lowest 62 = .ok (.lload_n 1, 1) := by decide +kernel
theorem dX7_lowest_63 : decode cX7_lowest 63 = .ok (.lreturn, 1) := by decide +kernel
theorem dX8_takeMembers_0 : decode cX8_takeMembers 0 = .ok (.aload_n 0, 1) := by decide +kernel
theorem dX8_takeMembers_1 : decode cX8_takeMembers 1 = .ok (.iload_n 1, 1) := by decide +kernel
theorem dX8_takeMembers_2 : decode cX8_takeMembers 2 = .ok (.putfield 9, 3) := by decide +kernel
theorem dX8_takeMembers_5 : decode cX8_takeMembers 5 = .ok (.iconst 0, 1) := by decide +kernel
theorem dX8_takeMembers_6 : decode cX8_takeMembers 6 = .ok (.istore_n 3, 1) := by decide +kernel
theorem dX8_takeMembers_7 : decode cX8_takeMembers 7 = .ok (.iload_n 3, 1) := by decide +kernel
theorem dX8_takeMembers_8 : decode cX8_takeMembers 8 = .ok (.bipush 12, 2) := by decide +kernel
theorem dX8_takeMembers_10 : decode cX8_takeMembers 10 = .ok (.if_icmp .ge 33, 3) := by decide +kernel
theorem dX8_takeMembers_13 : decode cX8_takeMembers 13 = .ok (.aload_n 0, 1) := by decide +kernel
theorem dX8_takeMembers_14 : decode cX8_takeMembers 14 = .ok (.getfield 37, 3) := by decide +kernel
theorem dX8_takeMembers_17 : decode cX8_takeMembers 17 = .ok (.iload_n 3, 1) := by decide +kernel
theorem dX8_takeMembers_18 : decode cX8_takeMembers 18 = .ok (.iload_n 1, 1) := by decide +kernel
theorem dX8_takeMembers_19 : decode cX8_takeMembers 19 = .ok (.iload_n 3, 1) := by decide +kernel
theorem dX8_takeMembers_20 : decode cX8_takeMembers 20 = .ok (.ishr, 1) := by decide +kernel
theorem dX8_takeMembers_21 : decode cX8_takeMembers 21 = .ok (.iconst 1, 1) := by decide +kernel
theorem dX8_takeMembers_22 : decode cX8_takeMembers 22 = .ok (.iand, 1) := by decide +kernel
theorem dX8_takeMembers_23 : decode cX8_takeMembers 23 = .ok (.iconst 1, 1) := by decide +kernel
theorem dX8_takeMembers_24 : decode cX8_takeMembers 24 = .ok (.if_icmp .ne 11, 3) := by decide +kernel
theorem dX8_takeMembers_27 : decode cX8_takeMembers 27 = .ok (.aload_n 2, 1) := by decide +kernel
theorem dX8_takeMembers_28 : decode cX8_takeMembers 28 = .ok (.iload_n 3, 1) := by decide +kernel
theorem dX8_takeMembers_29 : decode cX8_takeMembers 29 = .ok (.invokevirtual 55, 3) := by decide +kernel
theorem dX8_takeMembers_32 : decode cX8_takeMembers 32 = .ok (.goto 4, 3) := by decide +kernel
theorem dX8_takeMembers_35 : decode cX8_takeMembers 35 = .ok (.iconst 0, 1) := by decide +kernel
theorem dX8_takeMembers_36 : decode cX8_takeMembers 36 = .ok (.iastore, 1) := by decide +kernel
theorem dX8_takeMembers_37 : decode cX8_takeMembers 37 = .ok (.iinc 3 1, 3) := by decide +kernel
theorem dX8_takeMembers_40 : decode cX8_takeMembers 40 = .ok (.goto (-33), 3) := by decide +kernel
theorem dX8_takeMembers_43 : decode cX8_takeMembers 43 = .ok (.return_, 1) := by decide +kernel
theorem dX8_takeLaw_0 : decode cX8_takeLaw 0 = .ok (.aload_n 0, 1) := by decide +kernel
theorem dX8_takeLaw_1 : decode cX8_takeLaw 1 = .ok (.iconst 0, 1) := by decide +kernel
theorem dX8_takeLaw_2 : decode cX8_takeLaw 2 = .ok (.iload_n 2, 1) := by decide +kernel
theorem dX8_takeLaw_3 : decode cX8_takeLaw 3 = .ok (.aload_n 1, 1) := by decide +kernel
theorem dX8_takeLaw_4 : decode cX8_takeLaw 4 = .ok (.arraylength, 1) := by decide +kernel
theorem dX8_takeLaw_5 : decode cX8_takeLaw 5 = .ok (.invokestatic 61, 3) := by decide +kernel
theorem dX8_takeLaw_8 : decode cX8_takeLaw 8 = .ok (.bipush 80, 2) := by decide +kernel
theorem dX8_takeLaw_10 : decode cX8_takeLaw 10 = .ok (.invokestatic 61, 3) := by decide +kernel
theorem dX8_takeLaw_13 : decode cX8_takeLaw 13 = .ok (.invokestatic 67, 3) := by decide +kernel
theorem dX8_takeLaw_16 : decode cX8_takeLaw 16 = .ok (.putfield 30, 3) := by decide +kernel
theorem dX8_takeLaw_19 : decode cX8_takeLaw 19 = .ok (.aload_n 1, 1) := by decide +kernel
theorem dX8_takeLaw_20 : decode cX8_takeLaw 20 = .ok (.iconst 0, 1) := by decide +kernel
theorem dX8_takeLaw_21 : decode cX8_takeLaw 21 = .ok (.aload_n 0, 1) := by decide +kernel
theorem dX8_takeLaw_22 : decode cX8_takeLaw 22 = .ok (.getfield 44, 3) := by decide +kernel
theorem dX8_takeLaw_25 : decode cX8_takeLaw 25 = .ok (.iconst 0, 1) := by decide +kernel
theorem dX8_takeLaw_26 : decode cX8_takeLaw 26 = .ok (.aload_n 0, 1) := by decide +kernel
theorem dX8_takeLaw_27 : decode cX8_takeLaw 27 = .ok (.getfield 30, 3) := by decide +kernel
theorem dX8_takeLaw_30 : decode cX8_takeLaw 30 = .ok (.invokestatic 70, 3) := by decide +kernel
theorem dX8_takeLaw_33 : decode cX8_takeLaw 33 = .ok (.return_, 1) := by decide +kernel
theorem dX8_takeAll_0 : decode cX8_takeAll 0 = .ok (.aload_n 0, 1) := by decide +kernel
theorem dX8_takeAll_1 : decode cX8_takeAll 1 = .ok (.aload_n 1, 1) := by decide +kernel
theorem dX8_takeAll_2 : decode cX8_takeAll 2 = .ok (.getfield 9, 3) := by decide +kernel
theorem dX8_takeAll_5 : decode cX8_takeAll 5 = .ok (.putfield 9, 3) := by decide +kernel
theorem dX8_takeAll_8 : decode cX8_takeAll 8 = .ok (.aload_n 1, 1) := by decide +kernel
theorem dX8_takeAll_9 : decode cX8_takeAll 9 = .ok (.getfield 37, 3) := by decide +kernel
theorem dX8_takeAll_12 : decode cX8_takeAll 12 = .ok (.iconst 0, 1) := by decide +kernel
theorem dX8_takeAll_13 : decode cX8_takeAll 13 = .ok (.aload_n 0, 1) := by decide +kernel
theorem dX8_takeAll_14 : decode cX8_takeAll 14 = .ok (.getfield 37, 3) := by decide +kernel
theorem dX8_takeAll_17 : decode cX8_takeAll 17 = .ok (.iconst 0, 1) := by decide +kernel
theorem dX8_takeAll_18 : decode cX8_takeAll 18 = .ok (.bipush 12, 2) := by decide +kernel
theorem dX8_takeAll_20 : decode cX8_takeAll 20 = .ok (.invokestatic 70, 3) := by decide +kernel
theorem dX8_takeAll_23 : decode cX8_takeAll 23 = .ok (.aload_n 0, 1) := by decide +kernel
theorem dX8_takeAll_24 : decode cX8_takeAll 24 = .ok (.aload_n 1, 1) := by decide +kernel
theorem dX8_takeAll_25 : decode cX8_takeAll 25 = .ok (.getfield 44, 3) := by decide +kernel
theorem dX8_takeAll_28 : decode cX8_takeAll 28 = .ok (.aload_n 1, 1) := by decide +kernel
theorem dX8_takeAll_29 : decode cX8_takeAll 29 = .ok (.getfield 30, 3) := by decide +kernel
theorem dX8_takeAll_32 : decode cX8_takeAll 32 = .ok (.invokevirtual 76, 3) := by decide +kernel
theorem dX8_takeAll_35 : decode cX8_takeAll 35 = .ok (.aload_n 0, 1) := by decide +kernel
theorem dX8_takeAll_36 : decode cX8_takeAll 36 = .ok (.aload_n 1, 1) := by decide +kernel
theorem dX8_takeAll_37 : decode cX8_takeAll 37 = .ok (.getfield 18, 3) := by decide +kernel
theorem dX8_takeAll_40 : decode cX8_takeAll 40 = .ok (.putfield 18, 3) := by decide +kernel
theorem dX8_takeAll_43 : decode cX8_takeAll 43 = .ok (.aload_n 0, 1) := by decide +kernel
theorem dX8_takeAll_44 : decode cX8_takeAll 44 = .ok (.aload_n 1, 1) := by decide +kernel
theorem dX8_takeAll_45 : decode cX8_takeAll 45 = .ok (.getfield 21, 3) := by decide +kernel
theorem dX8_takeAll_48 : decode cX8_takeAll 48 = .ok (.putfield 21, 3) := by decide +kernel
theorem dX8_takeAll_51 : decode cX8_takeAll 51 = .ok (.aload_n 0, 1) := by decide +kernel
theorem dX8_takeAll_52 : decode cX8_takeAll 52 = .ok (.aload_n 1, 1) := by decide +kernel
theorem dX8_takeAll_53 : decode cX8_takeAll 53 = .ok (.getfield 24, 3) := by decide +kernel
theorem dX8_takeAll_56 : decode cX8_takeAll 56 = .ok (.putfield 24, 3) := by decide +kernel
theorem dX8_takeAll_59 : decode cX8_takeAll 59 = .ok (.return_, 1) := by decide +kernel
theorem dX8_seatAll_0 : decode cX8_seatAll 0 = .ok (.aload_n 0, 1) := by decide +kernel
theorem dX8_seatAll_1 : decode cX8_seatAll 1 = .ok (.iload_n 1, 1) := by decide +kernel
theorem dX8_seatAll_2 : decode cX8_seatAll 2 = .ok (.putfield 15, 3) := by decide +kernel
theorem dX8_seatAll_5 : decode cX8_seatAll 5 = .ok (.aload_n 0, 1) := by decide +kernel
theorem dX8_seatAll_6 : decode cX8_seatAll 6 = .ok (.iconst 0, 1) := by decide +kernel
theorem dX8_seatAll_7 : decode cX8_seatAll 7 = .ok (.putfield 27, 3) := by decide +kernel
theorem dX8_seatAll_10 : decode cX8_seatAll 10 = .ok (.aload_n 0, 1) := by decide +kernel
theorem dX8_seatAll_11 : decode cX8_seatAll 11 = .ok (.iconst 0, 1) := by decide +kernel
theorem dX8_seatAll_12 : decode cX8_seatAll 12 = .ok (.putfield 33, 3) := by decide +kernel
theorem dX8_seatAll_15 : decode cX8_seatAll 15 = .ok (.aload_n 0, 1) := by decide +kernel
theorem dX8_seatAll_16 : decode cX8_seatAll 16 = .ok (.getfield 48, 3) := by decide +kernel
theorem dX8_seatAll_19 : decode cX8_seatAll 19 = .ok (.iconst (-1), 1) := by decide +kernel
theorem dX8_seatAll_20 : decode cX8_seatAll 20 = .ok (.invokestatic 80, 3) := by decide +kernel
theorem dX8_seatAll_23 : decode cX8_seatAll 23 = .ok (.iconst 0, 1) := by decide +kernel
theorem dX8_seatAll_24 : decode cX8_seatAll 24 = .ok (.istore_n 2, 1) := by decide +kernel
theorem dX8_seatAll_25 : decode cX8_seatAll 25 = .ok (.iload_n 2, 1) := by decide +kernel
theorem dX8_seatAll_26 : decode cX8_seatAll 26 = .ok (.bipush 12, 2) := by decide +kernel
theorem dX8_seatAll_28 : decode cX8_seatAll 28 = .ok (.if_icmp .ge 65, 3) := by decide +kernel
theorem dX8_seatAll_31 : decode cX8_seatAll 31 = .ok (.iconst 0, 1) := by decide +kernel
theorem dX8_seatAll_32 : decode cX8_seatAll 32 = .ok (.istore_n 3, 1) := by decide +kernel
theorem dX8_seatAll_33 : decode cX8_seatAll 33 = .ok (.iload_n 3, 1) := by decide +kernel
theorem dX8_seatAll_34 : decode cX8_seatAll 34 = .ok (.iconst 4, 1) := by decide +kernel
theorem dX8_seatAll_35 : decode cX8_seatAll 35 = .ok (.aload_n 0, 1) := by decide +kernel
theorem dX8_seatAll_36 : decode cX8_seatAll 36 = .ok (.getfield 37, 3) := by decide +kernel
theorem dX8_seatAll_39 : decode cX8_seatAll 39 = .ok (.iload_n 2, 1) := by decide +kernel
theorem dX8_seatAll_40 : decode cX8_seatAll 40 = .ok (.iaload, 1) := by decide +kernel
theorem dX8_seatAll_41 : decode cX8_seatAll 41 = .ok (.imul, 1) := by decide +kernel
theorem dX8_seatAll_42 : decode cX8_seatAll 42 = .ok (.if_icmp .ge 45, 3) := by decide +kernel
theorem dX8_seatAll_45 : decode cX8_seatAll 45 = .ok (.aload_n 0, 1) := by decide +kernel
theorem dX8_seatAll_46 : decode cX8_seatAll 46 = .ok (.getfield 48, 3) := by decide +kernel
theorem dX8_seatAll_49 : decode cX8_seatAll 49 = .ok (.aload_n 0, 1) := by decide +kernel
theorem dX8_seatAll_50 : decode cX8_seatAll 50 = .ok (.iload_n 2, 1) := by decide +kernel
theorem dX8_seatAll_51 : decode cX8_seatAll 51 = .ok (.sipush 7919, 3) := by decide +kernel
theorem dX8_seatAll_54 : decode cX8_seatAll 54 = .ok (.imul, 1) := by decide +kernel
theorem dX8_seatAll_55 : decode cX8_seatAll 55 = .ok (.iload_n 3, 1) := by decide +kernel
theorem dX8_seatAll_56 : decode cX8_seatAll 56 = .ok (.ldc 86, 2) := by decide +kernel
theorem dX8_seatAll_58 : decode cX8_seatAll 58 = .ok (.imul, 1) := by decide +kernel
theorem dX8_seatAll_59 : decode cX8_seatAll 59 = .ok (.iadd, 1) := by decide +kernel
theorem dX8_seatAll_60 : decode cX8_seatAll 60 = .ok (.iload_n 1, 1) := by decide +kernel
theorem dX8_seatAll_61 : decode cX8_seatAll 61 = .ok (.iadd, 1) := by decide +kernel
theorem dX8_seatAll_62 : decode cX8_seatAll 62 = .ok (.invokestatic 87, 3) := by decide +kernel
theorem dX8_seatAll_65 : decode cX8_seatAll 65 = .ok (.invokevirtual 90, 3) := by decide +kernel
theorem dX8_seatAll_68 : decode cX8_seatAll 68 = .ok (.iload_n 2, 1) := by decide +kernel
theorem dX8_seatAll_69 : decode cX8_seatAll 69 = .ok (.i2b, 1) := by decide +kernel
theorem dX8_seatAll_70 : decode cX8_seatAll 70 = .ok (.bastore, 1) := by decide +kernel
theorem dX8_seatAll_71 : decode cX8_seatAll 71 = .ok (.aload_n 0, 1) := by decide +kernel
theorem dX8_seatAll_72 : decode cX8_seatAll 72 = .ok (.dup, 1) := by decide +kernel
theorem dX8_seatAll_73 : decode cX8_seatAll 73 = .ok (.getfield 27, 3) := by decide +kernel
theorem dX8_seatAll_76 : decode cX8_seatAll 76 = .ok (.iconst 1, 1) := by decide +kernel
theorem dX8_seatAll_77 : decode cX8_seatAll 77 = .ok (.iadd, 1) := by decide +kernel
theorem dX8_seatAll_78 : decode cX8_seatAll 78 = .ok (.putfield 27, 3) := by decide +kernel
theorem dX8_seatAll_81 : decode cX8_seatAll 81 = .ok (.iinc 3 1, 3) := by decide +kernel
theorem dX8_seatAll_84 : decode cX8_seatAll 84 = .ok (.goto (-51), 3) := by decide +kernel
theorem dX8_seatAll_87 : decode cX8_seatAll 87 = .ok (.iinc 2 1, 3) := by decide +kernel
theorem dX8_seatAll_90 : decode cX8_seatAll 90 = .ok (.goto (-65), 3) := by decide +kernel
theorem dX8_seatAll_93 : decode cX8_seatAll 93 = .ok (.aload_n 0, 1) := by decide +kernel
theorem dX8_seatAll_94 : decode cX8_seatAll 94 = .ok (.invokevirtual 93, 3) := by decide +kernel
theorem dX8_seatAll_97 : decode cX8_seatAll 97 = .ok (.return_, 1) := by decide +kernel
theorem dX8_freeFrom_0 : decode cX8_freeFrom 0 = .ok (.iload_n 1, 1) := by decide +kernel
theorem dX8_freeFrom_1 : decode cX8_freeFrom 1 = .ok (.istore_n 2, 1) := by decide +kernel
theorem dX8_freeFrom_2 : decode cX8_freeFrom 2 = .ok (.iconst 0, 1) := by decide +kernel
theorem dX8_freeFrom_3 : decode cX8_freeFrom 3 = .ok (.istore_n 3, 1) := by decide +kernel
theorem dX8_freeFrom_4 : decode cX8_freeFrom 4 = .ok (.iload_n 3, 1) := by decide +kernel
theorem dX8_freeFrom_5 : decode cX8_freeFrom 5 = .ok (.sipush 1000, 3) := by decide +kernel
theorem dX8_freeFrom_8 : decode cX8_freeFrom 8 = .ok (.if_icmp .ge 24, 3) := by decide +kernel
theorem dX8_freeFrom_11 : decode cX8_freeFrom 11 = .ok (.aload_n 0, 1) := by decide +kernel
theorem dX8_freeFrom_12 : decode cX8_freeFrom 12 = .ok (.getfield 48, 3) := by decide +kernel
theorem dX8_freeFrom_15 : decode cX8_freeFrom 15 = .ok (.iload_n 2, 1) := by decide +kernel
theorem dX8_freeFrom_16 : decode cX8_freeFrom 16 = .ok (.baload, 1) := by decide +kernel
theorem dX8_freeFrom_17 : decode cX8_freeFrom 17 = .ok (.iconst (-1), 1) := by decide +kernel
theorem dX8_freeFrom_18 : decode cX8_freeFrom 18 = .ok (.if_icmp .eq 14, 3) := by decide +kernel
theorem dX8_freeFrom_21 : decode cX8_freeFrom 21 = .ok (.iload_n 2, 1) := by decide +kernel
theorem dX8_freeFrom_22 : decode cX8_freeFrom 22 = .ok (.invokestatic 96, 3) := by decide +kernel
theorem dX8_freeFrom_25 : decode cX8_freeFrom 25 = .ok (.istore_n 2, 1) := by decide +kernel
theorem dX8_freeFrom_26 : decode cX8_freeFrom 26 = .ok (.iinc 3 1, 3) := by decide +kernel
theorem dX8_freeFrom_29 : decode cX8_freeFrom 29 = .ok (.goto (-25), 3) := by decide +kernel
theorem dX8_freeFrom_32 : decode cX8_freeFrom 32 = .ok (.iload_n 2, 1) := by decide +kernel
theorem dX8_freeFrom_33 : decode cX8_freeFrom 33 = .ok (.ireturn, 1) := by decide +kernel
theorem dX8_linkPlaces_0 : decode cX8_linkPlaces 0 = .ok (.iconst 0, 1) := by decide +kernel
theorem dX8_linkPlaces_1 : decode cX8_linkPlaces 1 = .ok (.istore_n 1, 1) := by decide +kernel
theorem dX8_linkPlaces_2 : decode cX8_linkPlaces 2 = .ok (.sipush 1999, 3) := by decide +kernel
theorem dX8_linkPlaces_5 : decode cX8_linkPlaces 5 = .ok (.istore_n 2, 1) := by decide +kernel
theorem dX8_linkPlaces_6 : decode cX8_linkPlaces 6 = .ok (.iload_n 2, 1) := by decide +kernel
theorem dX8_linkPlaces_7 : decode cX8_linkPlaces 7 = .ok (.ifCond .lt 35, 3) := by decide +kernel
theorem dX8_linkPlaces_10 : decode cX8_linkPlaces 10 = .ok (.iload_n 2, 1) := by decide +kernel
theorem dX8_linkPlaces_11 : decode cX8_linkPlaces 11 = .ok (.sipush 1000, 3) := by decide +kernel
theorem dX8_linkPlaces_14 : decode cX8_linkPlaces 14 = .ok (.irem, 1) := by decide +kernel
theorem dX8_linkPlaces_15 : decode cX8_linkPlaces 15 = .ok (.istore_n 3, 1) := by decide +kernel
theorem dX8_linkPlaces_16 : decode cX8_linkPlaces 16 = .ok (.aload_n 0, 1) := by decide +kernel
theorem dX8_linkPlaces_17 : decode cX8_linkPlaces 17 = .ok (.getfield 48, 3) := by decide +kernel
theorem dX8_linkPlaces_20 : decode cX8_linkPlaces 20 = .ok (.iload_n 3, 1) := by decide +kernel
theorem dX8_linkPlaces_21 : decode cX8_linkPlaces 21 = .ok (.baload, 1) := by decide +kernel
theorem dX8_linkPlaces_22 : decode cX8_linkPlaces 22 = .ok (.iconst (-1), 1) := by decide +kernel
theorem dX8_linkPlaces_23 : decode cX8_linkPlaces 23 = .ok (.if_icmp .eq 5, 3) := by decide +kernel
theorem dX8_linkPlaces_26 : decode cX8_linkPlaces 26 = .ok (.iload_n 3, 1) := by decide +kernel
theorem dX8_linkPlaces_27 : decode cX8_linkPlaces 27 = .ok (.istore_n 1, 1) := by decide +kernel
theorem dX8_linkPlaces_28 : decode cX8_linkPlaces 28 = .ok (.aload_n 0, 1) := by decide +kernel
theorem dX8_linkPlaces_29 : decode cX8_linkPlaces 29 = .ok (.getfield 51, 3) := by decide +kernel
theorem dX8_linkPlaces_32 : decode cX8_linkPlaces 32 = .ok (.iload_n 3, 1) := by decide +kernel
theorem dX8_linkPlaces_33 : decode cX8_linkPlaces 33 = .ok (.iload_n 1, 1) := by decide +kernel
theorem dX8_linkPlaces_34 : decode cX8_linkPlaces 34 = .ok (.i2s, 1) := by decide +kernel
theorem dX8_linkPlaces_35 : decode cX8_linkPlaces 35 = .ok (.sastore, 1) := by decide +kernel
theorem dX8_linkPlaces_36 : decode cX8_linkPlaces 36 = .ok (.iinc 2 (-1), 3) := by decide +kernel
theorem dX8_linkPlaces_39 : decode cX8_linkPlaces 39 = .ok (.goto (-33), 3) := by decide +kernel
theorem dX8_linkPlaces_42 : decode cX8_linkPlaces 42 = .ok (.return_, 1) := by decide +kernel
theorem dX8_sumOf_0 : decode cX8_sumOf 0 = .ok (.iload_n 2, 1) := by decide +kernel
theorem dX8_sumOf_1 : decode cX8_sumOf 1 = .ok (.sipush 7919, 3) := by decide +kernel
theorem dX8_sumOf_4 : decode cX8_sumOf 4 = .ok (.imul, 1) := by decide +kernel
theorem dX8_sumOf_5 : decode cX8_sumOf 5 = .ok (.iload_n 1, 1) := by decide +kernel
theorem dX8_sumOf_6 : decode cX8_sumOf 6 = .ok (.ldc 86, 2) := by decide +kernel
theorem dX8_sumOf_8 : decode cX8_sumOf 8 = .ok (.imul, 1) := by decide +kernel
theorem dX8_sumOf_9 : decode cX8_sumOf 9 = .ok (.iadd, 1) := by decide +kernel
theorem dX8_sumOf_10 : decode cX8_sumOf 10 = .ok (.aload_n 0, 1) := by decide +kernel
theorem dX8_sumOf_11 : decode cX8_sumOf 11 = .ok (.getfield 15, 3) := by decide +kernel
theorem dX8_sumOf_14 : decode cX8_sumOf 14 = .ok (.iadd, 1) := by decide +kernel
theorem dX8_sumOf_15 : decode cX8_sumOf 15 = .ok (.invokestatic 87, 3) := by decide +kernel
theorem dX8_sumOf_18 : decode cX8_sumOf 18 = .ok (.aload_n 0, 1) := by decide +kernel
theorem dX8_sumOf_19 : decode cX8_sumOf 19 = .ok (.getfield 37, 3) := by decide +kernel
theorem dX8_sumOf_22 : decode cX8_sumOf 22 = .ok (.iload_n 1, 1) := by decide +kernel
theorem dX8_sumOf_23 : decode cX8_sumOf 23 = .ok (.iaload, 1) := by decide +kernel
theorem dX8_sumOf_24 : decode cX8_sumOf 24 = .ok (.imul, 1) := by decide +kernel
theorem dX8_sumOf_25 : decode cX8_sumOf 25 = .ok (.ireturn, 1) := by decide +kernel
theorem dX8_firstFor_0 : decode cX8_firstFor 0 = .ok (.aload_n 0, 1) := by decide +kernel
theorem dX8_firstFor_1 : decode cX8_firstFor 1 = .ok (.getfield 24, 3) := by decide +kernel
theorem dX8_firstFor_4 : decode cX8_firstFor 4 = .ok (.iconst 1, 1) := by decide +kernel
theorem dX8_firstFor_5 : decode cX8_firstFor 5 = .ok (.if_icmp .eq 15, 3) := by decide +kernel
theorem dX8_firstFor_8 : decode cX8_firstFor 8 = .ok (.aload_n 0, 1) := by decide +kernel
theorem dX8_firstFor_9 : decode cX8_firstFor 9 = .ok (.getfield 48, 3) := by decide +kernel
theorem dX8_firstFor_12 : decode cX8_firstFor 12 = .ok (.aload_n 0, 1) := by decide +kernel
theorem dX8_firstFor_13 : decode cX8_firstFor 13 = .ok (.getfield 51, 3) := by decide +kernel
theorem dX8_firstFor_16 : decode cX8_firstFor 16 = .ok (.iload_n 1, 1) := by decide +kernel
theorem dX8_firstFor_17 : decode cX8_firstFor 17 = .ok (.saload, 1) := by decide +kernel
theorem dX8_firstFor_18 : decode cX8_firstFor 18 = .ok (.baload, 1) := by decide +kernel
theorem dX8_firstFor_19 : decode cX8_firstFor 19 = .ok (.ireturn, 1) := by decide +kernel
theorem dX8_firstFor_20 : decode cX8_firstFor 20 = .ok (.iconst (-1), 1) := by decide +kernel
theorem dX8_firstFor_21 : decode cX8_firstFor 21 = .ok (.istore_n 2, 1) := by decide +kernel
theorem dX8_firstFor_22 : decode cX8_firstFor 22 = .ok (.iconst (-1), 1) := by decide +kernel
theorem dX8_firstFor_23 : decode cX8_firstFor 23 = .ok (.istore_n 3, 1) := by decide +kernel
theorem dX8_firstFor_24 : decode cX8_firstFor 24 = .ok (.iconst 0, 1) := by decide +kernel
theorem dX8_firstFor_25 : decode cX8_firstFor 25 = .ok (.istore 4, 2) := by decide +kernel
theorem dX8_firstFor_27 : decode cX8_firstFor 27 = .ok (.iload 4, 2) := by decide +kernel
theorem dX8_firstFor_29 : decode cX8_firstFor 29 = .ok (.bipush 12, 2) := by decide +kernel
theorem dX8_firstFor_31 : decode cX8_firstFor 31 = .ok (.if_icmp .ge 45, 3) := by decide +kernel
theorem dX8_firstFor_34 : decode cX8_firstFor 34 = .ok (.aload_n 0, 1) := by decide +kernel
theorem dX8_firstFor_35 : decode cX8_firstFor 35 = .ok (.getfield 9, 3) := by decide +kernel
theorem dX8_firstFor_38 : decode cX8_firstFor 38 = .ok (.iload 4, 2) := by decide +kernel
theorem dX8_firstFor_40 : decode cX8_firstFor 40 = .ok (.ishr, 1) := by decide +kernel
theorem dX8_firstFor_41 : decode cX8_firstFor 41 = .ok (.iconst 1, 1) := by decide +kernel
theorem dX8_firstFor_42 : decode cX8_firstFor 42 = .ok (.iand, 1) := by decide +kernel
theorem dX8_firstFor_43 : decode cX8_firstFor 43 = .ok (.ifCond .ne 6, 3) := by decide +kernel
theorem dX8_firstFor_46 : decode cX8_firstFor 46 = .ok (.goto 24, 3) := by decide +kernel
theorem dX8_firstFor_49 : decode cX8_firstFor 49 = .ok (.aload_n 0, 1) := by decide +kernel
theorem dX8_firstFor_50 : decode cX8_firstFor 50 = .ok (.iload 4, 2) := by decide +kernel
theorem dX8_firstFor_52 : decode cX8_firstFor 52 = .ok (.iload_n 1, 1) := by decide +kernel
theorem dX8_firstFor_53 : decode cX8_firstFor 53 = .ok (.invokevirtual 99, 3) := by decide +kernel
theorem dX8_firstFor_56 : decode cX8_firstFor 56 = .ok (.istore 5, 2) := by decide +kernel
theorem dX8_firstFor_58 : decode cX8_firstFor 58 = .ok (.iload 5, 2) := by decide +kernel
theorem dX8_firstFor_60 : decode cX8_firstFor 60 = .ok (.iload_n 3, 1) := by decide +kernel
theorem dX8_firstFor_61 : decode cX8_firstFor 61 = .ok (.if_icmp .le 9, 3) := by decide +kernel
theorem dX8_firstFor_64 : decode cX8_firstFor 64 = .ok (.iload 5, 2) := by decide +kernel
theorem dX8_firstFor_66 : decode cX8_firstFor 66 = .ok (.istore_n 3, 1) := by decide +kernel
theorem dX8_firstFor_67 : decode cX8_firstFor 67 = .ok (.iload 4, 2) := by decide +kernel
theorem dX8_firstFor_69 : decode cX8_firstFor 69 = .ok (.istore_n 2, 1) := by decide +kernel
theorem dX8_firstFor_70 : decode cX8_firstFor 70 = .ok (.iinc 4 1, 3) := by decide +kernel
theorem dX8_firstFor_73 : decode cX8_firstFor 73 = .ok (.goto (-46), 3) := by decide +kernel
theorem dX8_firstFor_76 : decode cX8_firstFor 76 = .ok (.iload_n 2, 1) := by decide +kernel
theorem dX8_firstFor_77 : decode cX8_firstFor 77 = .ok (.ireturn, 1) := by decide +kernel
theorem dX8_countOdds_0 : decode cX8_countOdds 0 = .ok (.aload_n 0, 1) := by decide +kernel
theorem dX8_countOdds_1 : decode cX8_countOdds 1 = .ok (.getfield 33, 3) := by decide +kernel
theorem dX8_countOdds_4 : decode cX8_countOdds 4 = .ok (.ifCond .eq 4, 3) := by decide +kernel
theorem dX8_countOdds_7 : decode cX8_countOdds 7 = .ok (.return_, 1) := by decide +kernel
theorem dX8_countOdds_8 : decode cX8_countOdds 8 = .ok (.aload_n 0, 1) := by decide +kernel
theorem dX8_countOdds_9 : decode cX8_countOdds 9 = .ok (.getfield 41, 3) := by decide +kernel
theorem dX8_countOdds_12 : decode cX8_countOdds 12 = .ok (.iconst 0, 1) := by decide +kernel
theorem dX8_countOdds_13 : decode cX8_countOdds 13 = .ok (.invokestatic 102, 3) := by decide +kernel
theorem dX8_countOdds_16 : decode cX8_countOdds 16 = .ok (.iconst 0, 1) := by decide +kernel
theorem dX8_countOdds_17 : decode cX8_countOdds 17 = .ok (.istore_n 1, 1) := by decide +kernel
theorem dX8_countOdds_18 : decode cX8_countOdds 18 = .ok (.iload_n 1, 1) := by decide +kernel
theorem dX8_countOdds_19 : decode cX8_countOdds 19 = .ok (.sipush 1000, 3) := by decide +kernel
theorem dX8_countOdds_22 : decode cX8_countOdds 22 = .ok (.if_icmp .ge 35, 3) := by decide +kernel
theorem dX8_countOdds_25 : decode cX8_countOdds 25 = .ok (.aload_n 0, 1) := by decide +kernel
theorem dX8_countOdds_26 : decode cX8_countOdds 26 = .ok (.iload_n 1, 1) := by decide +kernel
theorem dX8_countOdds_27 : decode cX8_countOdds 27 = .ok (.invokevirtual 105, 3) := by decide +kernel
theorem dX8_countOdds_30 : decode cX8_countOdds 30 = .ok (.istore_n 2, 1) := by decide +kernel
theorem dX8_countOdds_31 : decode cX8_countOdds 31 = .ok (.iload_n 2, 1) := by decide +kernel
theorem dX8_countOdds_32 : decode cX8_countOdds 32 = .ok (.ifCond .lt 19, 3) := by decide +kernel
theorem dX8_countOdds_35 : decode cX8_countOdds 35 = .ok (.iload_n 2, 1) := by decide +kernel
theorem dX8_countOdds_36 : decode cX8_countOdds 36 = .ok (.bipush 12, 2) := by decide +kernel
theorem dX8_countOdds_38 : decode cX8_countOdds 38 = .ok (.if_icmp .ge 13, 3) := by decide +kernel
theorem dX8_countOdds_41 : decode cX8_countOdds 41 = .ok (.aload_n 0, 1) := by decide +kernel
theorem dX8_countOdds_42 : decode cX8_countOdds 42 = .ok (.getfield 41, 3) := by decide +kernel
theorem dX8_countOdds_45 : decode cX8_countOdds 45 = .ok (.iload_n 2, 1) := by decide +kernel
theorem dX8_countOdds_46 : decode cX8_countOdds 46 = .ok (.dup2, 1) := by decide +kernel
theorem dX8_countOdds_47 : decode cX8_countOdds 47 = .ok (.iaload, 1) := by decide +kernel
theorem dX8_countOdds_48 : decode cX8_countOdds 48 = .ok (.iconst 1, 1) := by decide +kernel
theorem dX8_countOdds_49 : decode cX8_countOdds 49 = .ok (.iadd, 1) := by decide +kernel
theorem dX8_countOdds_50 : decode cX8_countOdds 50 = .ok (.iastore, 1) := by decide +kernel
theorem dX8_countOdds_51 : decode cX8_countOdds 51 = .ok (.iinc 1 1, 3) := by decide +kernel
theorem dX8_countOdds_54 : decode cX8_countOdds 54 = .ok (.goto (-36), 3) := by decide +kernel
theorem dX8_countOdds_57 : decode cX8_countOdds 57 = .ok (.aload_n 0, 1) := by decide +kernel
theorem dX8_countOdds_58 : decode cX8_countOdds 58 = .ok (.iconst 1, 1) := by decide +kernel
theorem dX8_countOdds_59 : decode cX8_countOdds 59 = .ok (.putfield 33, 3) := by decide +kernel
theorem dX8_countOdds_62 : decode cX8_countOdds 62 = .ok (.return_, 1) := by decide +kernel
theorem dX8_unevenness_0 : decode cX8_unevenness 0 = .ok (.aload_n 0, 1) := by decide +kernel
theorem dX8_unevenness_1 : decode cX8_unevenness 1 = .ok (.invokevirtual 108, 3) := by decide +kernel
theorem dX8_unevenness_4 : decode cX8_unevenness 4 = .ok (.sipush 1000, 3) := by decide +kernel
theorem dX8_unevenness_7 : decode cX8_unevenness 7 = .ok (.istore_n 1, 1) := by decide +kernel
theorem dX8_unevenness_8 : decode cX8_unevenness 8 = .ok (.iconst 0, 1) := by decide +kernel
theorem dX8_unevenness_9 : decode cX8_unevenness 9 = .ok (.istore_n 2, 1) := by decide +kernel
theorem dX8_unevenness_10 : decode cX8_unevenness 10 = .ok (.iconst 0, 1) := by decide +kernel
theorem dX8_unevenness_11 : decode cX8_unevenness 11 = .ok (.istore_n 3, 1) := by decide +kernel
theorem dX8_unevenness_12 : decode cX8_unevenness 12 = .ok (.iload_n 3, 1) := by decide +kernel
theorem dX8_unevenness_13 : decode cX8_unevenness 13 = .ok (.bipush 12, 2) := by decide +kernel
theorem dX8_unevenness_15 : decode cX8_unevenness 15 = .ok (.if_icmp .ge 45, 3) := by decide +kernel
theorem dX8_unevenness_18 : decode cX8_unevenness 18 = .ok (.aload_n 0, 1) := by decide +kernel
theorem dX8_unevenness_19 : decode cX8_unevenness 19 = .ok (.getfield 9, 3) := by decide +kernel
theorem dX8_unevenness_22 : decode cX8_unevenness 22 = .ok (.iload_n 3, 1) := by decide +kernel
theorem dX8_unevenness_23 : decode cX8_unevenness 23 = .ok (.ishr, 1) := by decide +kernel
theorem dX8_unevenness_24 : decode cX8_unevenness 24 = .ok (.iconst 1, 1) := by decide +kernel
theorem dX8_unevenness_25 : decode cX8_unevenness 25 = .ok (.iand, 1) := by decide +kernel
theorem dX8_unevenness_26 : decode cX8_unevenness 26 = .ok (.ifCond .ne 6, 3) := by decide +kernel
theorem dX8_unevenness_29 : decode cX8_unevenness 29 = .ok (.goto 25, 3) := by decide +kernel
theorem dX8_unevenness_32 : decode cX8_unevenness 32 = .ok (.iload_n 1, 1) := by decide +kernel
theorem dX8_unevenness_33 : decode cX8_unevenness 33 = .ok (.aload_n 0, 1) := by decide +kernel
theorem dX8_unevenness_34 : decode cX8_unevenness 34 = .ok (.getfield 41, 3) := by decide +kernel
theorem dX8_unevenness_37 : decode cX8_unevenness 37 = .ok (.iload_n 3, 1) := by decide +kernel
theorem dX8_unevenness_38 : decode cX8_unevenness 38 = .ok (.iaload, 1) := by decide +kernel
theorem dX8_unevenness_39 : decode cX8_unevenness 39 = .ok (.invokestatic 61, 3) := by decide +kernel
theorem dX8_unevenness_42 : decode cX8_unevenness 42 = .ok (.istore_n 1, 1) := by decide +kernel
theorem dX8_unevenness_43 : decode cX8_unevenness 43 = .ok (.iload_n 2, 1) := by decide +kernel
theorem dX8_unevenness_44 : decode cX8_unevenness 44 = .ok (.aload_n 0, 1) := by decide +kernel
theorem dX8_unevenness_45 : decode cX8_unevenness 45 = .ok (.getfield 41, 3) := by decide +kernel
theorem dX8_unevenness_48 : decode cX8_unevenness 48 = .ok (.iload_n 3, 1) := by decide +kernel
theorem dX8_unevenness_49 : decode cX8_unevenness 49 = .ok (.iaload, 1) := by decide +kernel
theorem dX8_unevenness_50 : decode cX8_unevenness 50 = .ok (.invokestatic 67, 3) := by decide +kernel
theorem dX8_unevenness_53 : decode cX8_unevenness 53 = .ok (.istore_n 2, 1) := by decide +kernel
theorem dX8_unevenness_54 : decode cX8_unevenness 54 = .ok (.iinc 3 1, 3) := by decide +kernel
theorem dX8_unevenness_57 : decode cX8_unevenness 57 = .ok (.goto (-45), 3) := by decide +kernel
theorem dX8_unevenness_60 : decode cX8_unevenness 60 = .ok (.iload_n 2, 1) := by decide +kernel
theorem dX8_unevenness_61 : decode cX8_unevenness 61 = .ok (.iload_n 1, 1) := by decide +kernel
theorem dX8_unevenness_62 : decode cX8_unevenness 62 = .ok (.isub, 1) := by decide +kernel
theorem dX8_unevenness_63 : decode cX8_unevenness 63 = .ok (.ireturn, 1) := by decide +kernel
theorem dX8_alikeIn_0 : decode cX8_alikeIn 0 = .ok (.aload_n 0, 1) := by decide +kernel
theorem dX8_alikeIn_1 : decode cX8_alikeIn 1 = .ok (.getfield 9, 3) := by decide +kernel
theorem dX8_alikeIn_4 : decode cX8_alikeIn 4 = .ok (.aload_n 1, 1) := by decide +kernel
theorem dX8_alikeIn_5 : decode cX8_alikeIn 5 = .ok (.getfield 9, 3) := by decide +kernel
theorem dX8_alikeIn_8 : decode cX8_alikeIn 8 = .ok (.iand, 1) := by decide +kernel
theorem dX8_alikeIn_9 : decode cX8_alikeIn 9 = .ok (.istore_n 2, 1) := by decide +kernel
theorem dX8_alikeIn_10 : decode cX8_alikeIn 10 = .ok (.iconst 0, 1) := by decide +kernel
theorem dX8_alikeIn_11 : decode cX8_alikeIn 11 = .ok (.istore_n 3, 1) := by decide +kernel
theorem dX8_alikeIn_12 : decode cX8_alikeIn 12 = .ok (.iload_n 3, 1) := by decide +kernel
theorem dX8_alikeIn_13 : decode cX8_alikeIn 13 = .ok (.bipush 12, 2) := by decide +kernel
theorem dX8_alikeIn_15 : decode cX8_alikeIn 15 = .ok (.if_icmp .ge 32, 3) := by decide +kernel
theorem dX8_alikeIn_18 : decode cX8_alikeIn 18 = .ok (.aload_n 0, 1) := by decide +kernel
theorem dX8_alikeIn_19 : decode cX8_alikeIn 19 = .ok (.getfield 37, 3) := by decide +kernel
theorem dX8_alikeIn_22 : decode cX8_alikeIn 22 = .ok (.iload_n 3, 1) := by decide +kernel
theorem dX8_alikeIn_23 : decode cX8_alikeIn 23 = .ok (.iaload, 1) := by decide +kernel
theorem dX8_alikeIn_24 : decode cX8_alikeIn 24 = .ok (.aload_n 1, 1) := by decide +kernel
theorem dX8_alikeIn_25 : decode cX8_alikeIn 25 = .ok (.getfield 37, 3) := by decide +kernel
theorem dX8_alikeIn_28 : decode cX8_alikeIn 28 = .ok (.iload_n 3, 1) := by decide +kernel
theorem dX8_alikeIn_29 : decode cX8_alikeIn 29 = .ok (.iaload, 1) := by decide +kernel
theorem dX8_alikeIn_30 : decode cX8_alikeIn 30 = .ok (.if_icmp .eq 11, 3) := by decide +kernel
theorem dX8_alikeIn_33 : decode cX8_alikeIn 33 = .ok (.iload_n 2, 1) := by decide +kernel
theorem dX8_alikeIn_34 : decode cX8_alikeIn 34 = .ok (.iconst 1, 1) := by decide +kernel
theorem dX8_alikeIn_35 : decode cX8_alikeIn 35 = .ok (.iload_n 3, 1) := by decide +kernel
theorem dX8_alikeIn_36 : decode cX8_alikeIn 36 = .ok (.ishl, 1) := by decide +kernel
theorem dX8_alikeIn_37 : decode cX8_alikeIn 37 = .ok (.iconst (-1), 1) := by decide +kernel
theorem dX8_alikeIn_38 : decode cX8_alikeIn 38 = .ok (.ixor, 1) := by decide +kernel
theorem dX8_alikeIn_39 : decode cX8_alikeIn 39 = .ok (.iand, 1) := by decide +kernel
theorem dX8_alikeIn_40 : decode cX8_alikeIn 40 = .ok (.istore_n 2, 1) := by decide +kernel
theorem dX8_alikeIn_41 : decode cX8_alikeIn 41 = .ok (.iinc 3 1, 3) := by decide +kernel
theorem dX8_alikeIn_44 : decode cX8_alikeIn 44 = .ok (.goto (-32), 3) := by decide +kernel
theorem dX8_alikeIn_47 : decode cX8_alikeIn 47 = .ok (.iload_n 2, 1) := by decide +kernel
theorem dX8_alikeIn_48 : decode cX8_alikeIn 48 = .ok (.ireturn, 1) := by decide +kernel
theorem dX10_leastHarm_0 : decode cX10_leastHarm 0 = .ok (.iconst (-1), 1) := by decide +kernel
theorem dX10_leastHarm_1 : decode cX10_leastHarm 1 = .ok (.istore_n 3, 1) := by decide +kernel
theorem dX10_leastHarm_2 : decode cX10_leastHarm 2 = .ok (.aload_n 2, 1) := by decide +kernel
theorem dX10_leastHarm_3 : decode cX10_leastHarm 3 = .ok (.aload_n 1, 1) := by decide +kernel
theorem dX10_leastHarm_4 : decode cX10_leastHarm 4 = .ok (.invokevirtual 29, 3) := by decide +kernel
theorem dX10_leastHarm_7 : decode cX10_leastHarm 7 = .ok (.iconst 0, 1) := by decide +kernel
theorem dX10_leastHarm_8 : decode cX10_leastHarm 8 = .ok (.istore 4, 2) := by decide +kernel
theorem dX10_leastHarm_10 : decode cX10_leastHarm 10 = .ok (.iload 4, 2) := by decide +kernel
theorem dX10_leastHarm_12 : decode cX10_leastHarm 12 = .ok (.aload_n 0, 1) := by decide +kernel
theorem dX10_leastHarm_13 : decode cX10_leastHarm 13 = .ok (.getfield 15, 3) := by decide +kernel
theorem dX10_leastHarm_16 : decode cX10_leastHarm 16 = .ok (.if_icmp .ge 50, 3) := by decide +kernel
theorem dX10_leastHarm_19 : decode cX10_leastHarm 19 = .ok (.aload_n 2, 1) := by decide +kernel
theorem dX10_leastHarm_20 : decode cX10_leastHarm 20 = .ok (.aload_n 0, 1) := by decide +kernel
theorem dX10_leastHarm_21 : decode cX10_leastHarm 21 = .ok (.getfield 9, 3) := by decide +kernel
theorem dX10_leastHarm_24 : decode cX10_leastHarm 24 = .ok (.iload 4, 2) := by decide +kernel
theorem dX10_leastHarm_26 : decode cX10_leastHarm 26 = .ok (.iaload, 1) := by decide +kernel
theorem dX10_leastHarm_27 : decode cX10_leastHarm 27 = .ok (.invokevirtual 35, 3) := by decide +kernel
theorem dX10_leastHarm_30 : decode cX10_leastHarm 30 = .ok (.aload_n 0, 1) := by decide +kernel
theorem dX10_leastHarm_31 : decode cX10_leastHarm 31 = .ok (.aload_n 2, 1) := by decide +kernel
theorem dX10_leastHarm_32 : decode cX10_leastHarm 32 = .ok (.invokevirtual 39, 3) := by decide +kernel
theorem dX10_leastHarm_35 : decode cX10_leastHarm 35 = .ok (.istore 5, 2) := by decide +kernel
theorem dX10_leastHarm_37 : decode cX10_leastHarm 37 = .ok (.iload_n 3, 1) := by decide +kernel
theorem dX10_leastHarm_38 : decode cX10_leastHarm 38 = .ok (.iconst (-1), 1) := by decide +kernel
theorem dX10_leastHarm_39 : decode cX10_leastHarm 39 = .ok (.if_icmp .eq 12, 3) := by decide +kernel
theorem dX10_leastHarm_42 : decode cX10_leastHarm 42 = .ok (.iload 5, 2) := by decide +kernel
theorem dX10_leastHarm_44 : decode cX10_leastHarm 44 = .ok (.aload_n 0, 1) := by decide +kernel
theorem dX10_leastHarm_45 : decode cX10_leastHarm 45 = .ok (.getfield 19, 3) := by decide +kernel
theorem dX10_leastHarm_48 : decode cX10_leastHarm 48 = .ok (.if_icmp .ge 12, 3) := by decide +kernel
theorem dX10_leastHarm_51 : decode cX10_leastHarm 51 = .ok (.iload 4, 2) := by decide +kernel
theorem dX10_leastHarm_53 : decode cX10_leastHarm 53 = .ok (.istore_n 3, 1) := by decide +kernel
theorem dX10_leastHarm_54 : decode cX10_leastHarm 54 = .ok (.aload_n 0, 1) := by decide +kernel
theorem dX10_leastHarm_55 : decode cX10_leastHarm 55 = .ok (.iload 5, 2) := by decide +kernel
theorem dX10_leastHarm_57 : decode cX10_leastHarm 57 = .ok (.putfield 19, 3) := by decide +kernel
theorem dX10_leastHarm_60 : decode cX10_leastHarm 60 = .ok (.iinc 4 1, 3) := by decide +kernel
theorem dX10_leastHarm_63 : decode cX10_leastHarm 63 = .ok (.goto (-53), 3) := by decide +kernel
theorem dX10_leastHarm_66 : decode cX10_leastHarm 66 = .ok (.aload_n 0, 1) := by decide +kernel
theorem dX10_leastHarm_67 : decode cX10_leastHarm 67 = .ok (.iconst 0, 1) := by decide +kernel
theorem dX10_leastHarm_68 : decode cX10_leastHarm 68 = .ok (.putfield 15, 3) := by decide +kernel
theorem dX10_leastHarm_71 : decode cX10_leastHarm 71 = .ok (.iload_n 3, 1) := by decide +kernel
theorem dX10_leastHarm_72 : decode cX10_leastHarm 72 = .ok (.ireturn, 1) := by decide +kernel
theorem dX10_greatestShare_0 : decode cX10_greatestShare 0 = .ok (.aload_n 0, 1) := by decide +kernel
theorem dX10_greatestShare_1 : decode cX10_greatestShare 1 = .ok (.getfield 22, 3) := by decide +kernel
theorem dX10_greatestShare_4 : decode cX10_greatestShare 4 = .ok (.iconst 0, 1) := by decide +kernel
theorem dX10_greatestShare_5 : decode cX10_greatestShare 5 = .ok (.invokestatic 43, 3) := by decide +kernel
theorem dX10_greatestShare_8 : decode cX10_greatestShare 8 = .ok (.iconst 0, 1) := by decide +kernel
theorem dX10_greatestShare_9 : decode cX10_greatestShare 9 = .ok (.istore_n 2, 1) := by decide +kernel
theorem dX10_greatestShare_10 : decode cX10_greatestShare 10 = .ok (.iconst 0, 1) := by decide +kernel
theorem dX10_greatestShare_11 : decode cX10_greatestShare 11 = .ok (.istore_n 3, 1) := by decide +kernel
theorem dX10_greatestShare_12 : decode cX10_greatestShare 12 = .ok (.iload_n 3, 1) := by decide +kernel
theorem dX10_greatestShare_13 : decode cX10_greatestShare 13 = .ok (.aload_n 0, 1) := by decide +kernel
theorem dX10_greatestShare_14 : decode cX10_greatestShare 14 = .ok (.getfield 25, 3) := by decide +kernel
theorem dX10_greatestShare_17 : decode cX10_greatestShare 17 = .ok (.getfield 49, 3) := by decide +kernel
theorem dX10_greatestShare_20 : decode cX10_greatestShare 20 = .ok (.if_icmp .ge 65, 3) := by decide +kernel
theorem dX10_greatestShare_23 : decode cX10_greatestShare 23 = .ok (.aload_n 1, 1) := by decide +kernel
theorem dX10_greatestShare_24 : decode cX10_greatestShare 24 = .ok (.aload_n 0, 1) := by decide +kernel
theorem dX10_greatestShare_25 : decode cX10_greatestShare 25 = .ok (.getfield 25, 3) := by decide +kernel
theorem dX10_greatestShare_28 : decode cX10_greatestShare 28 = .ok (.iload_n 3, 1) := by decide +kernel
theorem dX10_greatestShare_29 : decode cX10_greatestShare 29 = .ok (.aload_n 1, 1) := by decide +kernel
theorem dX10_greatestShare_30 : decode cX10_greatestShare 30 = .ok (.getfield 52, 3) := by decide +kernel
theorem dX10_greatestShare_33 : decode cX10_greatestShare 33 = .ok (.invokevirtual 55, 3) := by decide +kernel
theorem dX10_greatestShare_36 : decode cX10_greatestShare 36 = .ok (.invokevirtual 59, 3) := by decide +kernel
theorem dX10_greatestShare_39 : decode cX10_greatestShare 39 = .ok (.istore 4, 2) := by decide +kernel
theorem dX10_greatestShare_41 : decode cX10_greatestShare 41 = .ok (.iload 4, 2) := by decide +kernel
theorem dX10_greatestShare_43 : decode cX10_greatestShare 43 = .ok (.ifCond .lt 36, 3) := by decide +kernel
theorem dX10_greatestShare_46 : decode cX10_greatestShare 46 = .ok (.iload 4, 2) := by decide +kernel
theorem dX10_greatestShare_48 : decode cX10_greatestShare 48 = .ok (.bipush 12, 2) := by decide +kernel
theorem dX10_greatestShare_50 : decode cX10_greatestShare 50 = .ok (.if_icmp .lt 6, 3) := by decide +kernel
theorem dX10_greatestShare_53 : decode cX10_greatestShare 53 = .ok (.goto 26, 3) := by decide +kernel
theorem dX10_greatestShare_56 : decode cX10_greatestShare 56 = .ok (.aload_n 0, 1) := by decide +kernel
theorem dX10_greatestShare_57 : decode cX10_greatestShare 57 = .ok (.getfield 22, 3) := by decide +kernel
theorem dX10_greatestShare_60 : decode cX10_greatestShare 60 = .ok (.iload 4, 2) := by decide +kernel
theorem dX10_greatestShare_62 : decode cX10_greatestShare 62 = .ok (.dup2, 1) := by decide +kernel
theorem dX10_greatestShare_63 : decode cX10_greatestShare 63 = .ok (.iaload, 1) := by decide +kernel
theorem dX10_greatestShare_64 : decode cX10_greatestShare 64 = .ok (.iconst 1, 1) := by decide +kernel
theorem dX10_greatestShare_65 : decode cX10_greatestShare 65 = .ok (.iadd, 1) := by decide +kernel
theorem dX10_greatestShare_66 : decode cX10_greatestShare 66 = .ok (.iastore, 1) := by decide +kernel
theorem dX10_greatestShare_67 : decode cX10_greatestShare 67 = .ok (.iload_n 2, 1) := by decide +kernel
theorem dX10_greatestShare_68 : decode cX10_greatestShare 68 = .ok (.aload_n 0, 1) := by decide +kernel
theorem dX10_greatestShare_69 : decode cX10_greatestShare 69 = .ok (.getfield 22, 3) := by decide +kernel
theorem dX10_greatestShare_72 : decode cX10_greatestShare 72 = .ok (.iload 4, 2) := by decide +kernel
theorem dX10_greatestShare_74 : decode cX10_greatestShare 74 = .ok (.iaload, 1) := by decide +kernel
theorem dX10_greatestShare_75 : decode cX10_greatestShare 75 = .ok (.invokestatic 63, 3) := by decide +kernel
theorem dX10_greatestShare_78 : decode cX10_greatestShare 78 = .ok (.istore_n 2, 1) := by decide +kernel
theorem dX10_greatestShare_79 : decode cX10_greatestShare 79 = .ok (.iinc 3 1, 3) := by decide +kernel
theorem dX10_greatestShare_82 : decode cX10_greatestShare 82 = .ok (.goto (-70), 3) := by decide +kernel
theorem dX10_greatestShare_85 : decode cX10_greatestShare 85 = .ok (.iload_n 2, 1) := by decide +kernel
theorem dX10_greatestShare_86 : decode cX10_greatestShare 86 = .ok (.ireturn, 1) := by decide +kernel
theorem dX11_feed_26 : decode cX11_feed 26 = .ok (.bipush (-3), 2) := by decide +kernel
theorem dX11_feed_28 : decode cX11_feed 28 = .ok (.ireturn, 1) := by decide +kernel
theorem dX11_name_11 : decode cX11_name 11 = .ok (.aload_n 0, 1) := by decide +kernel
theorem dX11_name_12 : decode cX11_name 12 = .ok (.getfield 10, 3) := by decide +kernel
theorem dX11_name_15 : decode cX11_name 15 = .ok (.getfield 102, 3) := by decide +kernel
theorem dX11_name_18 : decode cX11_name 18 = .ok (.bipush 6, 2) := by decide +kernel
theorem dX11_name_20 : decode cX11_name 20 = .ok (.if_icmp .le 5, 3) := by decide +kernel
theorem dX11_name_25 : decode cX11_name 25 = .ok (.aload_n 0, 1) := by decide +kernel
theorem dX11_name_26 : decode cX11_name 26 = .ok (.getfield 19, 3) := by decide +kernel
theorem dX11_name_29 : decode cX11_name 29 = .ok (.aload_n 0, 1) := by decide +kernel
theorem dX11_name_30 : decode cX11_name 30 = .ok (.getfield 10, 3) := by decide +kernel
theorem dX11_name_33 : decode cX11_name 33 = .ok (.getfield 109, 3) := by decide +kernel
theorem dX11_name_36 : decode cX11_name 36 = .ok (.iconst 0, 1) := by decide +kernel
theorem dX11_name_37 : decode cX11_name 37 = .ok (.aload_n 0, 1) := by decide +kernel
theorem dX11_name_38 : decode cX11_name 38 = .ok (.getfield 10, 3) := by decide +kernel
theorem dX11_name_41 : decode cX11_name 41 = .ok (.getfield 102, 3) := by decide +kernel
theorem dX11_name_44 : decode cX11_name 44 = .ok (.invokevirtual 113, 3) := by decide +kernel
theorem dX11_name_47 : decode cX11_name 47 = .ok (.istore_n 1, 1) := by decide +kernel
theorem dX11_name_48 : decode cX11_name 48 = .ok (.iload_n 1, 1) := by decide +kernel
theorem dX11_name_49 : decode cX11_name 49 = .ok (.iconst (-1), 1) := by decide +kernel
theorem dX11_name_50 : decode cX11_name 50 = .ok (.if_icmp .ne 41, 3) := by decide +kernel
theorem dX11_name_53 : decode cX11_name 53 = .ok (.aload_n 0, 1) := by decide +kernel
theorem dX11_name_54 : decode cX11_name 54 = .ok (.getfield 19, 3) := by decide +kernel
theorem dX11_name_57 : decode cX11_name 57 = .ok (.getfield 117, 3) := by decide +kernel
theorem dX11_name_60 : decode cX11_name 60 = .ok (.bipush 40, 2) := by decide +kernel
theorem dX11_name_62 : decode cX11_name 62 = .ok (.if_icmp .lt 6, 3) := by decide +kernel
theorem dX11_name_65 : decode cX11_name 65 = .ok (.bipush (-3), 2) := by decide +kernel
theorem dX11_name_67 : decode cX11_name 67 = .ok (.ireturn, 1) := by decide +kernel
theorem dX11_name_68 : decode cX11_name 68 = .ok (.aload_n 0, 1) := by decide +kernel
theorem dX11_name_69 : decode cX11_name 69 = .ok (.getfield 19, 3) := by decide +kernel
theorem dX11_name_72 : decode cX11_name 72 = .ok (.aload_n 0, 1) := by decide +kernel
theorem dX11_name_73 : decode cX11_name 73 = .ok (.getfield 10, 3) := by decide +kernel
theorem dX11_name_76 : decode cX11_name 76 = .ok (.getfield 109, 3) := by decide +kernel
theorem dX11_name_79 : decode cX11_name 79 = .ok (.iconst 0, 1) := by decide +kernel
theorem dX11_name_80 : decode cX11_name 80 = .ok (.aload_n 0, 1) := by decide +kernel
theorem dX11_name_81 : decode cX11_name 81 = .ok (.getfield 10, 3) := by decide +kernel
theorem dX11_name_84 : decode cX11_name 84 = .ok (.getfield 102, 3) := by decide +kernel
theorem dX11_name_87 : decode cX11_name 87 = .ok (.invokevirtual 120, 3) := by decide +kernel
theorem dX11_name_90 : decode cX11_name 90 = .ok (.istore_n 1, 1) := by decide +kernel
theorem dX11_name_91 : decode cX11_name 91 = .ok (.aload_n 0, 1) := by decide +kernel
theorem dX11_name_92 : decode cX11_name 92 = .ok (.getfield 10, 3) := by decide +kernel
theorem dX11_name_95 : decode cX11_name 95 = .ok (.iconst 0, 1) := by decide +kernel
theorem dX11_name_96 : decode cX11_name 96 = .ok (.putfield 102, 3) := by decide +kernel
theorem dX11_name_99 : decode cX11_name 99 = .ok (.iload_n 1, 1) := by decide +kernel
theorem dX11_name_100 : decode cX11_name 100 = .ok (.ireturn, 1) := by decide +kernel
theorem dX11_number_13 : decode cX11_number 13 = .ok (.aload_n 0, 1) := by decide +kernel
theorem dX11_number_14 : decode cX11_number 14 = .ok (.getfield 19, 3) := by decide +kernel
theorem dX11_number_17 : decode cX11_number 17 = .ok (.iload_n 1, 1) := by decide +kernel
theorem dX11_number_18 : decode cX11_number 18 = .ok (.iload_n 2, 1) := by decide +kernel
theorem dX11_number_19 : decode cX11_number 19 = .ok (.invokevirtual 127, 3) := by decide +kernel
theorem dX11_number_22 : decode cX11_number 22 = .ok (.ireturn, 1) := by decide +kernel
theorem dX11_keeper_30 : decode cX11_keeper 30 = .ok (.bipush (-3), 2) := by decide +kernel
theorem dX11_keeper_32 : decode cX11_keeper 32 = .ok (.ireturn, 1) := by decide +kernel
theorem dX11_become_11 : decode cX11_become 11 = .ok (.iload_n 2, 1) := by decide +kernel
theorem dX11_become_12 : decode cX11_become 12 = .ok (.invokestatic 138, 3) := by decide +kernel
theorem dX11_become_15 : decode cX11_become 15 = .ok (.ifCond .ne 5, 3) := by decide +kernel
theorem dX11_become_20 : decode cX11_become 20 = .ok (.aload_n 0, 1) := by decide +kernel
theorem dX11_become_21 : decode cX11_become 21 = .ok (.getfield 26, 3) := by decide +kernel
theorem dX11_become_24 : decode cX11_become 24 = .ok (.getfield 141, 3) := by decide +kernel
theorem dX11_become_27 : decode cX11_become 27 = .ok (.iload_n 1, 1) := by decide +kernel
theorem dX11_become_28 : decode cX11_become 28 = .ok (.iaload, 1) := by decide +kernel
theorem dX11_become_29 : decode cX11_become 29 = .ok (.istore_n 3, 1) := by decide +kernel
theorem dX11_become_30 : decode cX11_become 30 = .ok (.aload_n 0, 1) := by decide +kernel
theorem dX11_become_31 : decode cX11_become 31 = .ok (.getfield 26, 3) := by decide +kernel
theorem dX11_become_34 : decode cX11_become 34 = .ok (.getfield 141, 3) := by decide +kernel
theorem dX11_become_37 : decode cX11_become 37 = .ok (.iload_n 1, 1) := by decide +kernel
theorem dX11_become_38 : decode cX11_become 38 = .ok (.iload_n 2, 1) := by decide +kernel
theorem dX11_become_39 : decode cX11_become 39 = .ok (.iastore, 1) := by decide +kernel
theorem dX11_become_40 : decode cX11_become 40 = .ok (.iload_n 3, 1) := by decide +kernel
theorem dX11_become_41 : decode cX11_become 41 = .ok (.iconst 4, 1) := by decide +kernel
theorem dX11_become_42 : decode cX11_become 42 = .ok (.if_icmp .ne 16, 3) := by decide +kernel
theorem dX11_become_45 : decode cX11_become 45 = .ok (.iload_n 2, 1) := by decide +kernel
theorem dX11_become_46 : decode cX11_become 46 = .ok (.iconst 4, 1) := by decide +kernel
theorem dX11_become_47 : decode cX11_become 47 = .ok (.if_icmp .eq 11, 3) := by decide +kernel
theorem dX11_become_50 : decode cX11_become 50 = .ok (.aload_n 0, 1) := by decide +kernel
theorem dX11_become_51 : decode cX11_become 51 = .ok (.getfield 66, 3) := by decide +kernel
theorem dX11_become_54 : decode cX11_become 54 = .ok (.iload_n 1, 1) := by decide +kernel
theorem dX11_become_55 : decode cX11_become 55 = .ok (.invokevirtual 145, 3) := by decide +kernel
theorem dX11_become_58 : decode cX11_become 58 = .ok (.iload_n 3, 1) := by decide +kernel
theorem dX11_become_59 : decode cX11_become 59 = .ok (.ireturn, 1) := by decide +kernel
theorem dX11_strength_11 : decode cX11_strength 11 = .ok (.iload_n 2, 1) := by decide +kernel
theorem dX11_strength_12 : decode cX11_strength 12 = .ok (.invokestatic 131, 3) := by decide +kernel
theorem dX11_strength_15 : decode cX11_strength 15 = .ok (.ifCond .ne 5, 3) := by decide +kernel
theorem dX11_strength_20 : decode cX11_strength 20 = .ok (.aload_n 0, 1) := by decide +kernel
theorem dX11_strength_21 : decode cX11_strength 21 = .ok (.getfield 26, 3) := by decide +kernel
theorem dX11_strength_24 : decode cX11_strength 24 = .ok (.getfield 149, 3) := by decide +kernel
theorem dX11_strength_27 : decode cX11_strength 27 = .ok (.iload_n 1, 1) := by decide +kernel
theorem dX11_strength_28 : decode cX11_strength 28 = .ok (.iaload, 1) := by decide +kernel
theorem dX11_strength_29 : decode cX11_strength 29 = .ok (.istore_n 3, 1) := by decide +kernel
theorem dX11_strength_30 : decode cX11_strength 30 = .ok (.aload_n 0, 1) := by decide +kernel
theorem dX11_strength_31 : decode cX11_strength 31 = .ok (.getfield 26, 3) := by decide +kernel
theorem dX11_strength_34 : decode cX11_strength 34 = .ok (.getfield 149, 3) := by decide +kernel
theorem dX11_strength_37 : decode cX11_strength 37 = .ok (.iload_n 1, 1) := by decide +kernel
theorem dX11_strength_38 : decode cX11_strength 38 = .ok (.iload_n 2, 1) := by decide +kernel
theorem dX11_strength_39 : decode cX11_strength 39 = .ok (.iastore, 1) := by decide +kernel
theorem dX11_strength_40 : decode cX11_strength 40 = .ok (.iload_n 3, 1) := by decide +kernel
theorem dX11_strength_41 : decode cX11_strength 41 = .ok (.ireturn, 1) := by decide +kernel
theorem dX11_ofKeeper_14 : decode cX11_ofKeeper 14 = .ok (.iload_n 2, 1) := by decide +kernel
theorem dX11_ofKeeper_15 : decode cX11_ofKeeper 15 = .ok (.tableswitch 130 0 7 #[45, 55, 65, 75, 84, 94, 103, 112], 45) := by decide +kernel
theorem dX11_ofKeeper_60 : decode cX11_ofKeeper 60 = .ok (.aload_n 0, 1) := by decide +kernel
theorem dX11_ofKeeper_61 : decode cX11_ofKeeper 61 = .ok (.getfield 26, 3) := by decide +kernel
theorem dX11_ofKeeper_64 : decode cX11_ofKeeper 64 = .ok (.getfield 141, 3) := by decide +kernel
end
section
theorem dX11_ofKeeper_67 : decode cX11_ofKeeper 67 = .ok (.iload_n 1, 1) := by decide +kernel
theorem dX11_ofKeeper_68 : decode cX11_ofKeeper 68 = .ok (.iaload, 1) := by decide +kernel
theorem dX11_ofKeeper_69 : decode cX11_ofKeeper 69 = .ok (.ireturn, 1) := by decide +kernel
theorem dX11_ofKeeper_70 : decode cX11_ofKeeper 70 = .ok (.aload_n 0, 1) := by decide +kernel
theorem dX11_ofKeeper_71 : decode cX11_ofKeeper 71 = .ok (.getfield 26, 3) := by decide +kernel
theorem dX11_ofKeeper_74 : decode cX11_ofKeeper 74 = .ok (.getfield 153, 3) := by decide +kernel
theorem dX11_ofKeeper_77 : decode cX11_ofKeeper 77 = .ok (.iload_n 1, 1) := by decide +kernel
theorem dX11_ofKeeper_78 : decode cX11_ofKeeper 78 = .ok (.iaload, 1) := by decide +kernel
theorem dX11_ofKeeper_79 : decode cX11_ofKeeper 79 = .ok (.ireturn, 1) := by decide +kernel
theorem dX11_ofKeeper_80 : decode cX11_ofKeeper 80 = .ok (.aload_n 0, 1) := by decide +kernel
theorem dX11_ofKeeper_81 : decode cX11_ofKeeper 81 = .ok (.getfield 26, 3) := by decide +kernel
theorem dX11_ofKeeper_84 : decode cX11_ofKeeper 84 = .ok (.getfield 149, 3) := by decide +kernel
theorem dX11_ofKeeper_87 : decode cX11_ofKeeper 87 = .ok (.iload_n 1, 1) := by decide +kernel
theorem dX11_ofKeeper_88 : decode cX11_ofKeeper 88 = .ok (.iaload, 1) := by decide +kernel
theorem dX11_ofKeeper_89 : decode cX11_ofKeeper 89 = .ok (.ireturn, 1) := by decide +kernel
theorem dX11_ofKeeper_90 : decode cX11_ofKeeper 90 = .ok (.aload_n 0, 1) := by decide +kernel
theorem dX11_ofKeeper_91 : decode cX11_ofKeeper 91 = .ok (.getfield 26, 3) := by decide +kernel
theorem dX11_ofKeeper_94 : decode cX11_ofKeeper 94 = .ok (.iload_n 1, 1) := by decide +kernel
theorem dX11_ofKeeper_95 : decode cX11_ofKeeper 95 = .ok (.invokevirtual 156, 3) := by decide +kernel
theorem dX11_ofKeeper_98 : decode cX11_ofKeeper 98 = .ok (.ireturn, 1) := by decide +kernel
theorem dX11_ofKeeper_99 : decode cX11_ofKeeper 99 = .ok (.aload_n 0, 1) := by decide +kernel
theorem dX11_ofKeeper_100 : decode cX11_ofKeeper 100 = .ok (.getfield 26, 3) := by decide +kernel
theorem dX11_ofKeeper_103 : decode cX11_ofKeeper 103 = .ok (.getfield 160, 3) := by decide +kernel
theorem dX11_ofKeeper_106 : decode cX11_ofKeeper 106 = .ok (.iload_n 1, 1) := by decide +kernel
theorem dX11_ofKeeper_107 : decode cX11_ofKeeper 107 = .ok (.iaload, 1) := by decide +kernel
theorem dX11_ofKeeper_108 : decode cX11_ofKeeper 108 = .ok (.ireturn, 1) := by decide +kernel
theorem dX11_ofKeeper_109 : decode cX11_ofKeeper 109 = .ok (.aload_n 0, 1) := by decide +kernel
theorem dX11_ofKeeper_110 : decode cX11_ofKeeper 110 = .ok (.getfield 66, 3) := by decide +kernel
theorem dX11_ofKeeper_113 : decode cX11_ofKeeper 113 = .ok (.iload_n 1, 1) := by decide +kernel
theorem dX11_ofKeeper_114 : decode cX11_ofKeeper 114 = .ok (.invokevirtual 163, 3) := by decide +kernel
theorem dX11_ofKeeper_117 : decode cX11_ofKeeper 117 = .ok (.ireturn, 1) := by decide +kernel
theorem dX11_ofKeeper_118 : decode cX11_ofKeeper 118 = .ok (.aload_n 0, 1) := by decide +kernel
theorem dX11_ofKeeper_119 : decode cX11_ofKeeper 119 = .ok (.getfield 66, 3) := by decide +kernel
theorem dX11_ofKeeper_122 : decode cX11_ofKeeper 122 = .ok (.iload_n 1, 1) := by decide +kernel
theorem dX11_ofKeeper_123 : decode cX11_ofKeeper 123 = .ok (.invokevirtual 166, 3) := by decide +kernel
theorem dX11_ofKeeper_126 : decode cX11_ofKeeper 126 = .ok (.ireturn, 1) := by decide +kernel
theorem dX11_ofKeeper_127 : decode cX11_ofKeeper 127 = .ok (.aload_n 0, 1) := by decide +kernel
theorem dX11_ofKeeper_128 : decode cX11_ofKeeper 128 = .ok (.getfield 26, 3) := by decide +kernel
theorem dX11_ofKeeper_131 : decode cX11_ofKeeper 131 = .ok (.getfield 169, 3) := by decide +kernel
theorem dX11_ofKeeper_134 : decode cX11_ofKeeper 134 = .ok (.iload_n 1, 1) := by decide +kernel
theorem dX11_ofKeeper_135 : decode cX11_ofKeeper 135 = .ok (.baload, 1) := by decide +kernel
theorem dX11_ofKeeper_136 : decode cX11_ofKeeper 136 = .ok (.ifCond .eq 7, 3) := by decide +kernel
theorem dX11_ofKeeper_139 : decode cX11_ofKeeper 139 = .ok (.iconst 1, 1) := by decide +kernel
theorem dX11_ofKeeper_140 : decode cX11_ofKeeper 140 = .ok (.goto 4, 3) := by decide +kernel
theorem dX11_ofKeeper_143 : decode cX11_ofKeeper 143 = .ok (.iconst 0, 1) := by decide +kernel
theorem dX11_ofKeeper_144 : decode cX11_ofKeeper 144 = .ok (.ireturn, 1) := by decide +kernel
theorem dX11_ofKeeper_145 : decode cX11_ofKeeper 145 = .ok (.ldc 152, 2) := by decide +kernel
theorem dX11_ofKeeper_147 : decode cX11_ofKeeper 147 = .ok (.ireturn, 1) := by decide +kernel
theorem dX11_table_26 : decode cX11_table 26 = .ok (.aload_n 0, 1) := by decide +kernel
theorem dX11_table_27 : decode cX11_table 27 = .ok (.getfield 52, 3) := by decide +kernel
theorem dX11_table_30 : decode cX11_table 30 = .ok (.bipush 10, 2) := by decide +kernel
theorem dX11_table_32 : decode cX11_table 32 = .ok (.if_icmp .lt 6, 3) := by decide +kernel
theorem dX11_table_35 : decode cX11_table 35 = .ok (.bipush (-3), 2) := by decide +kernel
theorem dX11_table_37 : decode cX11_table 37 = .ok (.ireturn, 1) := by decide +kernel
theorem dX11_table_38 : decode cX11_table 38 = .ok (.aload_n 0, 1) := by decide +kernel
theorem dX11_table_39 : decode cX11_table 39 = .ok (.getfield 57, 3) := by decide +kernel
theorem dX11_table_42 : decode cX11_table 42 = .ok (.iload_n 1, 1) := by decide +kernel
theorem dX11_table_43 : decode cX11_table 43 = .ok (.aload_n 0, 1) := by decide +kernel
theorem dX11_table_44 : decode cX11_table 44 = .ok (.getfield 26, 3) := by decide +kernel
theorem dX11_table_47 : decode cX11_table 47 = .ok (.invokevirtual 173, 3) := by decide +kernel
theorem dX11_table_50 : decode cX11_table 50 = .ok (.aload_n 0, 1) := by decide +kernel
theorem dX11_table_51 : decode cX11_table 51 = .ok (.getfield 57, 3) := by decide +kernel
theorem dX11_table_54 : decode cX11_table 54 = .ok (.aload_n 0, 1) := by decide +kernel
theorem dX11_table_55 : decode cX11_table 55 = .ok (.getfield 10, 3) := by decide +kernel
theorem dX11_table_58 : decode cX11_table 58 = .ok (.getfield 109, 3) := by decide +kernel
theorem dX11_table_61 : decode cX11_table 61 = .ok (.aload_n 0, 1) := by decide +kernel
theorem dX11_table_62 : decode cX11_table 62 = .ok (.getfield 10, 3) := by decide +kernel
theorem dX11_table_65 : decode cX11_table 65 = .ok (.getfield 102, 3) := by decide +kernel
theorem dX11_table_68 : decode cX11_table 68 = .ok (.invokevirtual 177, 3) := by decide +kernel
theorem dX11_table_71 : decode cX11_table 71 = .ok (.aload_n 0, 1) := by decide +kernel
theorem dX11_table_72 : decode cX11_table 72 = .ok (.getfield 10, 3) := by decide +kernel
theorem dX11_table_75 : decode cX11_table 75 = .ok (.iconst 0, 1) := by decide +kernel
theorem dX11_table_76 : decode cX11_table 76 = .ok (.putfield 102, 3) := by decide +kernel
theorem dX11_table_79 : decode cX11_table 79 = .ok (.aload_n 0, 1) := by decide +kernel
theorem dX11_table_80 : decode cX11_table 80 = .ok (.getfield 33, 3) := by decide +kernel
theorem dX11_table_83 : decode cX11_table 83 = .ok (.aload_n 0, 1) := by decide +kernel
theorem dX11_table_84 : decode cX11_table 84 = .ok (.getfield 57, 3) := by decide +kernel
theorem dX11_table_87 : decode cX11_table 87 = .ok (.aload_n 0, 1) := by decide +kernel
theorem dX11_table_88 : decode cX11_table 88 = .ok (.getfield 26, 3) := by decide +kernel
theorem dX11_table_91 : decode cX11_table 91 = .ok (.invokevirtual 181, 3) := by decide +kernel
theorem dX11_table_94 : decode cX11_table 94 = .ok (.istore 4, 2) := by decide +kernel
theorem dX11_table_96 : decode cX11_table 96 = .ok (.iload 4, 2) := by decide +kernel
theorem dX11_table_98 : decode cX11_table 98 = .ok (.iconst (-1), 1) := by decide +kernel
theorem dX11_table_99 : decode cX11_table 99 = .ok (.if_icmp .eq 9, 3) := by decide +kernel
theorem dX11_table_102 : decode cX11_table 102 = .ok (.bipush (-100), 2) := by decide +kernel
theorem dX11_table_104 : decode cX11_table 104 = .ok (.iload 4, 2) := by decide +kernel
theorem dX11_table_106 : decode cX11_table 106 = .ok (.isub, 1) := by decide +kernel
theorem dX11_table_107 : decode cX11_table 107 = .ok (.ireturn, 1) := by decide +kernel
theorem dX11_table_108 : decode cX11_table 108 = .ok (.new 46, 3) := by decide +kernel
theorem dX11_table_111 : decode cX11_table 111 = .ok (.dup, 1) := by decide +kernel
theorem dX11_table_112 : decode cX11_table 112 = .ok (.invokespecial 56, 3) := by decide +kernel
theorem dX11_table_115 : decode cX11_table 115 = .ok (.astore 5, 2) := by decide +kernel
theorem dX11_table_117 : decode cX11_table 117 = .ok (.aload 5, 2) := by decide +kernel
theorem dX11_table_119 : decode cX11_table 119 = .ok (.aload_n 0, 1) := by decide +kernel
theorem dX11_table_120 : decode cX11_table 120 = .ok (.getfield 57, 3) := by decide +kernel
theorem dX11_table_123 : decode cX11_table 123 = .ok (.invokevirtual 185, 3) := by decide +kernel
theorem dX11_table_126 : decode cX11_table 126 = .ok (.aload 5, 2) := by decide +kernel
theorem dX11_table_128 : decode cX11_table 128 = .ok (.iload_n 2, 1) := by decide +kernel
theorem dX11_table_129 : decode cX11_table 129 = .ok (.invokevirtual 189, 3) := by decide +kernel
theorem dX11_table_132 : decode cX11_table 132 = .ok (.aload_n 0, 1) := by decide +kernel
theorem dX11_table_133 : decode cX11_table 133 = .ok (.getfield 48, 3) := by decide +kernel
theorem dX11_table_136 : decode cX11_table 136 = .ok (.aload_n 0, 1) := by decide +kernel
theorem dX11_table_137 : decode cX11_table 137 = .ok (.getfield 52, 3) := by decide +kernel
theorem dX11_table_140 : decode cX11_table 140 = .ok (.aload 5, 2) := by decide +kernel
theorem dX11_table_142 : decode cX11_table 142 = .ok (.aastore, 1) := by decide +kernel
theorem dX11_table_143 : decode cX11_table 143 = .ok (.aload_n 0, 1) := by decide +kernel
theorem dX11_table_144 : decode cX11_table 144 = .ok (.dup, 1) := by decide +kernel
theorem dX11_table_145 : decode cX11_table 145 = .ok (.getfield 52, 3) := by decide +kernel
theorem dX11_table_148 : decode cX11_table 148 = .ok (.iconst 1, 1) := by decide +kernel
theorem dX11_table_149 : decode cX11_table 149 = .ok (.iadd, 1) := by decide +kernel
theorem dX11_table_150 : decode cX11_table 150 = .ok (.putfield 52, 3) := by decide +kernel
theorem dX11_table_153 : decode cX11_table 153 = .ok (.aload_n 0, 1) := by decide +kernel
theorem dX11_table_154 : decode cX11_table 154 = .ok (.getfield 52, 3) := by decide +kernel
theorem dX11_table_157 : decode cX11_table 157 = .ok (.iconst 1, 1) := by decide +kernel
theorem dX11_table_158 : decode cX11_table 158 = .ok (.isub, 1) := by decide +kernel
theorem dX11_table_159 : decode cX11_table 159 = .ok (.ireturn, 1) := by decide +kernel
theorem dX11_ofTable_12 : decode cX11_ofTable 12 = .ok (.iload_n 2, 1) := by decide +kernel
theorem dX11_ofTable_13 : decode cX11_ofTable 13 = .ok (.tableswitch 69 0 5 #[39, 44, 49, 54, 59, 64], 39) := by decide +kernel
theorem dX11_ofTable_52 : decode cX11_ofTable 52 = .ok (.aload_n 3, 1) := by decide +kernel
theorem dX11_ofTable_53 : decode cX11_ofTable 53 = .ok (.getfield 196, 3) := by decide +kernel
theorem dX11_ofTable_56 : decode cX11_ofTable 56 = .ok (.ireturn, 1) := by decide +kernel
theorem dX11_ofTable_57 : decode cX11_ofTable 57 = .ok (.aload_n 3, 1) := by decide +kernel
theorem dX11_ofTable_58 : decode cX11_ofTable 58 = .ok (.getfield 199, 3) := by decide +kernel
theorem dX11_ofTable_61 : decode cX11_ofTable 61 = .ok (.ireturn, 1) := by decide +kernel
theorem dX11_ofTable_62 : decode cX11_ofTable 62 = .ok (.aload_n 3, 1) := by decide +kernel
theorem dX11_ofTable_63 : decode cX11_ofTable 63 = .ok (.getfield 202, 3) := by decide +kernel
theorem dX11_ofTable_66 : decode cX11_ofTable 66 = .ok (.ireturn, 1) := by decide +kernel
theorem dX11_ofTable_67 : decode cX11_ofTable 67 = .ok (.aload_n 3, 1) := by decide +kernel
theorem dX11_ofTable_68 : decode cX11_ofTable 68 = .ok (.getfield 205, 3) := by decide +kernel
theorem dX11_ofTable_71 : decode cX11_ofTable 71 = .ok (.ireturn, 1) := by decide +kernel
theorem dX11_ofTable_72 : decode cX11_ofTable 72 = .ok (.aload_n 3, 1) := by decide +kernel
theorem dX11_ofTable_73 : decode cX11_ofTable 73 = .ok (.getfield 208, 3) := by decide +kernel
theorem dX11_ofTable_76 : decode cX11_ofTable 76 = .ok (.ireturn, 1) := by decide +kernel
theorem dX11_ofTable_77 : decode cX11_ofTable 77 = .ok (.aload_n 3, 1) := by decide +kernel
theorem dX11_ofTable_78 : decode cX11_ofTable 78 = .ok (.invokevirtual 211, 3) := by decide +kernel
theorem dX11_ofTable_81 : decode cX11_ofTable 81 = .ok (.ireturn, 1) := by decide +kernel
theorem dX11_ofTable_82 : decode cX11_ofTable 82 = .ok (.iconst (-1), 1) := by decide +kernel
theorem dX11_ofTable_83 : decode cX11_ofTable 83 = .ok (.ireturn, 1) := by decide +kernel
theorem dX11_seat_10 : decode cX11_seat 10 = .ok (.iload_n 2, 1) := by decide +kernel
theorem dX11_seat_11 : decode cX11_seat 11 = .ok (.invokestatic 215, 3) := by decide +kernel
theorem dX11_seat_14 : decode cX11_seat 14 = .ok (.ifCond .ne 5, 3) := by decide +kernel
theorem dX11_seat_19 : decode cX11_seat 19 = .ok (.aload_n 3, 1) := by decide +kernel
theorem dX11_seat_20 : decode cX11_seat 20 = .ok (.getfield 218, 3) := by decide +kernel
theorem dX11_seat_23 : decode cX11_seat 23 = .ok (.iload_n 2, 1) := by decide +kernel
theorem dX11_seat_24 : decode cX11_seat 24 = .ok (.baload, 1) := by decide +kernel
theorem dX11_seat_25 : decode cX11_seat 25 = .ok (.iconst (-1), 1) := by decide +kernel
theorem dX11_seat_26 : decode cX11_seat 26 = .ok (.if_icmp .ne 8, 3) := by decide +kernel
theorem dX11_seat_29 : decode cX11_seat 29 = .ok (.bipush (-2), 2) := by decide +kernel
theorem dX11_seat_31 : decode cX11_seat 31 = .ok (.goto 9, 3) := by decide +kernel
theorem dX11_seat_34 : decode cX11_seat 34 = .ok (.aload_n 3, 1) := by decide +kernel
theorem dX11_seat_35 : decode cX11_seat 35 = .ok (.getfield 218, 3) := by decide +kernel
theorem dX11_seat_38 : decode cX11_seat 38 = .ok (.iload_n 2, 1) := by decide +kernel
theorem dX11_seat_39 : decode cX11_seat 39 = .ok (.baload, 1) := by decide +kernel
theorem dX11_seat_40 : decode cX11_seat 40 = .ok (.ireturn, 1) := by decide +kernel
theorem dX11_picked_12 : decode cX11_picked 12 = .ok (.iload_n 2, 1) := by decide +kernel
theorem dX11_picked_13 : decode cX11_picked 13 = .ok (.invokestatic 215, 3) := by decide +kernel
theorem dX11_picked_16 : decode cX11_picked 16 = .ok (.ifCond .eq 7, 3) := by decide +kernel
theorem dX11_picked_19 : decode cX11_picked 19 = .ok (.iload_n 3, 1) := by decide +kernel
theorem dX11_picked_20 : decode cX11_picked 20 = .ok (.ifCond .ge 5, 3) := by decide +kernel
theorem dX11_picked_25 : decode cX11_picked 25 = .ok (.aload_n 0, 1) := by decide +kernel
theorem dX11_picked_26 : decode cX11_picked 26 = .ok (.getfield 42, 3) := by decide +kernel
theorem dX11_picked_29 : decode cX11_picked 29 = .ok (.aload 4, 2) := by decide +kernel
theorem dX11_picked_31 : decode cX11_picked 31 = .ok (.iload_n 2, 1) := by decide +kernel
theorem dX11_picked_32 : decode cX11_picked 32 = .ok (.invokevirtual 221, 3) := by decide +kernel
theorem dX11_picked_35 : decode cX11_picked 35 = .ok (.iload_n 3, 1) := by decide +kernel
theorem dX11_picked_36 : decode cX11_picked 36 = .ok (.aload_n 0, 1) := by decide +kernel
theorem dX11_picked_37 : decode cX11_picked 37 = .ok (.getfield 42, 3) := by decide +kernel
theorem dX11_picked_40 : decode cX11_picked 40 = .ok (.getfield 225, 3) := by decide +kernel
theorem dX11_picked_43 : decode cX11_picked 43 = .ok (.if_icmp .ge 15, 3) := by decide +kernel
theorem dX11_picked_46 : decode cX11_picked 46 = .ok (.aload_n 0, 1) := by decide +kernel
theorem dX11_picked_47 : decode cX11_picked 47 = .ok (.getfield 42, 3) := by decide +kernel
theorem dX11_picked_50 : decode cX11_picked 50 = .ok (.getfield 228, 3) := by decide +kernel
theorem dX11_picked_53 : decode cX11_picked 53 = .ok (.iload_n 3, 1) := by decide +kernel
theorem dX11_picked_54 : decode cX11_picked 54 = .ok (.iaload, 1) := by decide +kernel
theorem dX11_picked_55 : decode cX11_picked 55 = .ok (.goto 4, 3) := by decide +kernel
theorem dX11_picked_58 : decode cX11_picked 58 = .ok (.iconst (-1), 1) := by decide +kernel
theorem dX11_picked_59 : decode cX11_picked 59 = .ok (.ireturn, 1) := by decide +kernel
theorem dX11_keeperOf_12 : decode cX11_keeperOf 12 = .ok (.aload_n 0, 1) := by decide +kernel
theorem dX11_keeperOf_13 : decode cX11_keeperOf 13 = .ok (.getfield 19, 3) := by decide +kernel
theorem dX11_keeperOf_16 : decode cX11_keeperOf 16 = .ok (.iload_n 2, 1) := by decide +kernel
theorem dX11_keeperOf_17 : decode cX11_keeperOf 17 = .ok (.invokevirtual 123, 3) := by decide +kernel
theorem dX11_keeperOf_20 : decode cX11_keeperOf 20 = .ok (.ifCond .eq 8, 3) := by decide +kernel
theorem dX11_keeperOf_23 : decode cX11_keeperOf 23 = .ok (.iload_n 3, 1) := by decide +kernel
theorem dX11_keeperOf_24 : decode cX11_keeperOf 24 = .ok (.iconst (-1), 1) := by decide +kernel
theorem dX11_keeperOf_25 : decode cX11_keeperOf 25 = .ok (.if_icmp .ge 5, 3) := by decide +kernel
theorem dX11_keeperOf_30 : decode cX11_keeperOf 30 = .ok (.aload_n 0, 1) := by decide +kernel
theorem dX11_keeperOf_31 : decode cX11_keeperOf 31 = .ok (.getfield 42, 3) := by decide +kernel
theorem dX11_keeperOf_34 : decode cX11_keeperOf 34 = .ok (.aload 4, 2) := by decide +kernel
theorem dX11_keeperOf_36 : decode cX11_keeperOf 36 = .ok (.aload_n 0, 1) := by decide +kernel
theorem dX11_keeperOf_37 : decode cX11_keeperOf 37 = .ok (.getfield 19, 3) := by decide +kernel
theorem dX11_keeperOf_40 : decode cX11_keeperOf 40 = .ok (.iload_n 2, 1) := by decide +kernel
theorem dX11_keeperOf_41 : decode cX11_keeperOf 41 = .ok (.aload 4, 2) := by decide +kernel
theorem dX11_keeperOf_43 : decode cX11_keeperOf 43 = .ok (.getfield 231, 3) := by decide +kernel
theorem dX11_keeperOf_46 : decode cX11_keeperOf 46 = .ok (.invokevirtual 127, 3) := by decide +kernel
theorem dX11_keeperOf_49 : decode cX11_keeperOf 49 = .ok (.invokevirtual 234, 3) := by decide +kernel
theorem dX11_keeperOf_52 : decode cX11_keeperOf 52 = .ok (.iload_n 3, 1) := by decide +kernel
theorem dX11_keeperOf_53 : decode cX11_keeperOf 53 = .ok (.iconst (-1), 1) := by decide +kernel
theorem dX11_keeperOf_54 : decode cX11_keeperOf 54 = .ok (.if_icmp .ne 11, 3) := by decide +kernel
theorem dX11_keeperOf_57 : decode cX11_keeperOf 57 = .ok (.aload_n 0, 1) := by decide +kernel
theorem dX11_keeperOf_58 : decode cX11_keeperOf 58 = .ok (.getfield 42, 3) := by decide +kernel
theorem dX11_keeperOf_61 : decode cX11_keeperOf 61 = .ok (.getfield 237, 3) := by decide +kernel
theorem dX11_keeperOf_64 : decode cX11_keeperOf 64 = .ok (.ireturn, 1) := by decide +kernel
theorem dX11_keeperOf_65 : decode cX11_keeperOf 65 = .ok (.iload_n 3, 1) := by decide +kernel
theorem dX11_keeperOf_66 : decode cX11_keeperOf 66 = .ok (.aload_n 0, 1) := by decide +kernel
theorem dX11_keeperOf_67 : decode cX11_keeperOf 67 = .ok (.getfield 42, 3) := by decide +kernel
theorem dX11_keeperOf_70 : decode cX11_keeperOf 70 = .ok (.getfield 237, 3) := by decide +kernel
theorem dX11_keeperOf_73 : decode cX11_keeperOf 73 = .ok (.if_icmp .ge 15, 3) := by decide +kernel
theorem dX11_keeperOf_76 : decode cX11_keeperOf 76 = .ok (.aload_n 0, 1) := by decide +kernel
theorem dX11_keeperOf_77 : decode cX11_keeperOf 77 = .ok (.getfield 42, 3) := by decide +kernel
theorem dX11_keeperOf_80 : decode cX11_keeperOf 80 = .ok (.getfield 240, 3) := by decide +kernel
theorem dX11_keeperOf_83 : decode cX11_keeperOf 83 = .ok (.iload_n 3, 1) := by decide +kernel
theorem dX11_keeperOf_84 : decode cX11_keeperOf 84 = .ok (.iaload, 1) := by decide +kernel
theorem dX11_keeperOf_85 : decode cX11_keeperOf 85 = .ok (.goto 4, 3) := by decide +kernel
theorem dX11_keeperOf_88 : decode cX11_keeperOf 88 = .ok (.iconst (-1), 1) := by decide +kernel
theorem dX11_keeperOf_89 : decode cX11_keeperOf 89 = .ok (.ireturn, 1) := by decide +kernel
theorem dX11_tooFew_12 : decode cX11_tooFew 12 = .ok (.iconst 0, 1) := by decide +kernel
theorem dX11_tooFew_13 : decode cX11_tooFew 13 = .ok (.istore_n 3, 1) := by decide +kernel
theorem dX11_tooFew_14 : decode cX11_tooFew 14 = .ok (.iconst 0, 1) := by decide +kernel
theorem dX11_tooFew_15 : decode cX11_tooFew 15 = .ok (.istore 4, 2) := by decide +kernel
theorem dX11_tooFew_17 : decode cX11_tooFew 17 = .ok (.iload 4, 2) := by decide +kernel
theorem dX11_tooFew_19 : decode cX11_tooFew 19 = .ok (.aload_n 0, 1) := by decide +kernel
theorem dX11_tooFew_20 : decode cX11_tooFew 20 = .ok (.getfield 19, 3) := by decide +kernel
theorem dX11_tooFew_23 : decode cX11_tooFew 23 = .ok (.getfield 117, 3) := by decide +kernel
theorem dX11_tooFew_26 : decode cX11_tooFew 26 = .ok (.if_icmp .ge 50, 3) := by decide +kernel
theorem dX11_tooFew_29 : decode cX11_tooFew 29 = .ok (.aload_n 0, 1) := by decide +kernel
theorem dX11_tooFew_30 : decode cX11_tooFew 30 = .ok (.getfield 42, 3) := by decide +kernel
theorem dX11_tooFew_33 : decode cX11_tooFew 33 = .ok (.aload_n 2, 1) := by decide +kernel
theorem dX11_tooFew_34 : decode cX11_tooFew 34 = .ok (.aload_n 0, 1) := by decide +kernel
theorem dX11_tooFew_35 : decode cX11_tooFew 35 = .ok (.getfield 19, 3) := by decide +kernel
theorem dX11_tooFew_38 : decode cX11_tooFew 38 = .ok (.iload 4, 2) := by decide +kernel
theorem dX11_tooFew_40 : decode cX11_tooFew 40 = .ok (.aload_n 2, 1) := by decide +kernel
theorem dX11_tooFew_41 : decode cX11_tooFew 41 = .ok (.getfield 231, 3) := by decide +kernel
theorem dX11_tooFew_44 : decode cX11_tooFew 44 = .ok (.invokevirtual 127, 3) := by decide +kernel
theorem dX11_tooFew_47 : decode cX11_tooFew 47 = .ok (.invokevirtual 234, 3) := by decide +kernel
theorem dX11_tooFew_50 : decode cX11_tooFew 50 = .ok (.aload_n 0, 1) := by decide +kernel
theorem dX11_tooFew_51 : decode cX11_tooFew 51 = .ok (.getfield 42, 3) := by decide +kernel
theorem dX11_tooFew_54 : decode cX11_tooFew 54 = .ok (.getfield 243, 3) := by decide +kernel
theorem dX11_tooFew_57 : decode cX11_tooFew 57 = .ok (.invokestatic 246, 3) := by decide +kernel
theorem dX11_tooFew_60 : decode cX11_tooFew 60 = .ok (.aload_n 2, 1) := by decide +kernel
theorem dX11_tooFew_61 : decode cX11_tooFew 61 = .ok (.getfield 205, 3) := by decide +kernel
theorem dX11_tooFew_64 : decode cX11_tooFew 64 = .ok (.if_icmp .ge 6, 3) := by decide +kernel
theorem dX11_tooFew_67 : decode cX11_tooFew 67 = .ok (.iinc 3 1, 3) := by decide +kernel
theorem dX11_tooFew_70 : decode cX11_tooFew 70 = .ok (.iinc 4 1, 3) := by decide +kernel
theorem dX11_tooFew_73 : decode cX11_tooFew 73 = .ok (.goto (-56), 3) := by decide +kernel
theorem dX11_tooFew_76 : decode cX11_tooFew 76 = .ok (.iload_n 3, 1) := by decide +kernel
theorem dX11_tooFew_77 : decode cX11_tooFew 77 = .ok (.ireturn, 1) := by decide +kernel
theorem dX11_share_12 : decode cX11_share 12 = .ok (.aload_n 0, 1) := by decide +kernel
theorem dX11_share_13 : decode cX11_share 13 = .ok (.getfield 26, 3) := by decide +kernel
theorem dX11_share_16 : decode cX11_share 16 = .ok (.iload_n 2, 1) := by decide +kernel
theorem dX11_share_17 : decode cX11_share 17 = .ok (.invokevirtual 137, 3) := by decide +kernel
theorem dX11_share_20 : decode cX11_share 20 = .ok (.ifCond .eq 12, 3) := by decide +kernel
theorem dX11_share_23 : decode cX11_share 23 = .ok (.iload_n 3, 1) := by decide +kernel
theorem dX11_share_24 : decode cX11_share 24 = .ok (.ifCond .lt 8, 3) := by decide +kernel
theorem dX11_share_27 : decode cX11_share 27 = .ok (.iload_n 3, 1) := by decide +kernel
theorem dX11_share_28 : decode cX11_share 28 = .ok (.iconst 1, 1) := by decide +kernel
theorem dX11_share_29 : decode cX11_share 29 = .ok (.if_icmp .le 5, 3) := by decide +kernel
theorem dX11_share_34 : decode cX11_share 34 = .ok (.iload_n 3, 1) := by decide +kernel
theorem dX11_share_35 : decode cX11_share 35 = .ok (.iconst 1, 1) := by decide +kernel
theorem dX11_share_36 : decode cX11_share 36 = .ok (.if_icmp .ne 16, 3) := by decide +kernel
theorem dX11_share_39 : decode cX11_share 39 = .ok (.aload 4, 2) := by decide +kernel
theorem dX11_share_41 : decode cX11_share 41 = .ok (.invokevirtual 251, 3) := by decide +kernel
theorem dX11_share_44 : decode cX11_share 44 = .ok (.aload 4, 2) := by decide +kernel
theorem dX11_share_46 : decode cX11_share 46 = .ok (.getfield 254, 3) := by decide +kernel
theorem dX11_share_49 : decode cX11_share 49 = .ok (.iload_n 2, 1) := by decide +kernel
theorem dX11_share_50 : decode cX11_share 50 = .ok (.iaload, 1) := by decide +kernel
theorem dX11_share_51 : decode cX11_share 51 = .ok (.ireturn, 1) := by decide +kernel
theorem dX11_share_52 : decode cX11_share 52 = .ok (.iconst 0, 1) := by decide +kernel
theorem dX11_share_53 : decode cX11_share 53 = .ok (.istore 5, 2) := by decide +kernel
theorem dX11_share_55 : decode cX11_share 55 = .ok (.iconst 0, 1) := by decide +kernel
theorem dX11_share_56 : decode cX11_share 56 = .ok (.istore 6, 2) := by decide +kernel
theorem dX11_share_58 : decode cX11_share 58 = .ok (.iload 6, 2) := by decide +kernel
theorem dX11_share_60 : decode cX11_share 60 = .ok (.aload_n 0, 1) := by decide +kernel
theorem dX11_share_61 : decode cX11_share 61 = .ok (.getfield 19, 3) := by decide +kernel
theorem dX11_share_64 : decode cX11_share 64 = .ok (.getfield 117, 3) := by decide +kernel
theorem dX11_share_67 : decode cX11_share 67 = .ok (.if_icmp .ge 35, 3) := by decide +kernel
theorem dX11_share_70 : decode cX11_share 70 = .ok (.aload 4, 2) := by decide +kernel
theorem dX11_share_72 : decode cX11_share 72 = .ok (.aload_n 0, 1) := by decide +kernel
theorem dX11_share_73 : decode cX11_share 73 = .ok (.getfield 19, 3) := by decide +kernel
theorem dX11_share_76 : decode cX11_share 76 = .ok (.iload 6, 2) := by decide +kernel
theorem dX11_share_78 : decode cX11_share 78 = .ok (.aload 4, 2) := by decide +kernel
theorem dX11_share_80 : decode cX11_share 80 = .ok (.getfield 231, 3) := by decide +kernel
theorem dX11_share_83 : decode cX11_share 83 = .ok (.invokevirtual 127, 3) := by decide +kernel
theorem dX11_share_86 : decode cX11_share 86 = .ok (.invokevirtual 257, 3) := by decide +kernel
theorem dX11_share_89 : decode cX11_share 89 = .ok (.iload_n 2, 1) := by decide +kernel
theorem dX11_share_90 : decode cX11_share 90 = .ok (.if_icmp .ne 6, 3) := by decide +kernel
theorem dX11_share_93 : decode cX11_share 93 = .ok (.iinc 5 1, 3) := by decide +kernel
theorem dX11_share_96 : decode cX11_share 96 = .ok (.iinc 6 1, 3) := by decide +kernel
theorem dX11_share_99 : decode cX11_share 99 = .ok (.goto (-41), 3) := by decide +kernel
theorem dX11_share_102 : decode cX11_share 102 = .ok (.iload 5, 2) := by decide +kernel
theorem dX11_share_104 : decode cX11_share 104 = .ok (.ireturn, 1) := by decide +kernel
theorem dX11_moves_19 : decode cX11_moves 19 = .ok (.aload 5, 2) := by decide +kernel
theorem dX11_moves_21 : decode cX11_moves 21 = .ok (.ifnull 12, 3) := by decide +kernel
theorem dX11_moves_24 : decode cX11_moves 24 = .ok (.iload_n 3, 1) := by decide +kernel
theorem dX11_moves_25 : decode cX11_moves 25 = .ok (.ifCond .lt 8, 3) := by decide +kernel
theorem dX11_moves_28 : decode cX11_moves 28 = .ok (.iload_n 3, 1) := by decide +kernel
theorem dX11_moves_29 : decode cX11_moves 29 = .ok (.iconst 1, 1) := by decide +kernel
theorem dX11_moves_30 : decode cX11_moves 30 = .ok (.if_icmp .le 5, 3) := by decide +kernel
theorem dX11_moves_35 : decode cX11_moves 35 = .ok (.aload 4, 2) := by decide +kernel
theorem dX11_moves_37 : decode cX11_moves 37 = .ok (.aload 5, 2) := by decide +kernel
theorem dX11_moves_39 : decode cX11_moves 39 = .ok (.invokevirtual 260, 3) := by decide +kernel
theorem dX11_moves_42 : decode cX11_moves 42 = .ok (.istore 6, 2) := by decide +kernel
theorem dX11_moves_44 : decode cX11_moves 44 = .ok (.iconst 0, 1) := by decide +kernel
theorem dX11_moves_45 : decode cX11_moves 45 = .ok (.istore 7, 2) := by decide +kernel
theorem dX11_moves_47 : decode cX11_moves 47 = .ok (.iconst 0, 1) := by decide +kernel
theorem dX11_moves_48 : decode cX11_moves 48 = .ok (.istore 8, 2) := by decide +kernel
theorem dX11_moves_50 : decode cX11_moves 50 = .ok (.iload 8, 2) := by decide +kernel
theorem dX11_moves_52 : decode cX11_moves 52 = .ok (.aload_n 0, 1) := by decide +kernel
theorem dX11_moves_53 : decode cX11_moves 53 = .ok (.getfield 19, 3) := by decide +kernel
theorem dX11_moves_56 : decode cX11_moves 56 = .ok (.getfield 117, 3) := by decide +kernel
theorem dX11_moves_59 : decode cX11_moves 59 = .ok (.if_icmp .ge 114, 3) := by decide +kernel
theorem dX11_moves_62 : decode cX11_moves 62 = .ok (.aload_n 0, 1) := by decide +kernel
theorem dX11_moves_63 : decode cX11_moves 63 = .ok (.getfield 42, 3) := by decide +kernel
theorem dX11_moves_66 : decode cX11_moves 66 = .ok (.aload 4, 2) := by decide +kernel
theorem dX11_moves_68 : decode cX11_moves 68 = .ok (.aload_n 0, 1) := by decide +kernel
theorem dX11_moves_69 : decode cX11_moves 69 = .ok (.getfield 19, 3) := by decide +kernel
theorem dX11_moves_72 : decode cX11_moves 72 = .ok (.iload 8, 2) := by decide +kernel
theorem dX11_moves_74 : decode cX11_moves 74 = .ok (.aload 4, 2) := by decide +kernel
theorem dX11_moves_76 : decode cX11_moves 76 = .ok (.getfield 231, 3) := by decide +kernel
theorem dX11_moves_79 : decode cX11_moves 79 = .ok (.invokevirtual 127, 3) := by decide +kernel
theorem dX11_moves_82 : decode cX11_moves 82 = .ok (.invokevirtual 234, 3) := by decide +kernel
theorem dX11_moves_85 : decode cX11_moves 85 = .ok (.aload_n 0, 1) := by decide +kernel
theorem dX11_moves_86 : decode cX11_moves 86 = .ok (.getfield 42, 3) := by decide +kernel
theorem dX11_moves_89 : decode cX11_moves 89 = .ok (.getfield 264, 3) := by decide +kernel
theorem dX11_moves_92 : decode cX11_moves 92 = .ok (.istore 9, 2) := by decide +kernel
theorem dX11_moves_94 : decode cX11_moves 94 = .ok (.aload_n 0, 1) := by decide +kernel
theorem dX11_moves_95 : decode cX11_moves 95 = .ok (.getfield 42, 3) := by decide +kernel
theorem dX11_moves_98 : decode cX11_moves 98 = .ok (.aload 5, 2) := by decide +kernel
theorem dX11_moves_100 : decode cX11_moves 100 = .ok (.aload_n 0, 1) := by decide +kernel
theorem dX11_moves_101 : decode cX11_moves 101 = .ok (.getfield 19, 3) := by decide +kernel
theorem dX11_moves_104 : decode cX11_moves 104 = .ok (.iload 8, 2) := by decide +kernel
theorem dX11_moves_106 : decode cX11_moves 106 = .ok (.aload 5, 2) := by decide +kernel
theorem dX11_moves_108 : decode cX11_moves 108 = .ok (.getfield 231, 3) := by decide +kernel
theorem dX11_moves_111 : decode cX11_moves 111 = .ok (.invokevirtual 127, 3) := by decide +kernel
theorem dX11_moves_114 : decode cX11_moves 114 = .ok (.invokevirtual 234, 3) := by decide +kernel
theorem dX11_moves_117 : decode cX11_moves 117 = .ok (.aload_n 0, 1) := by decide +kernel
theorem dX11_moves_118 : decode cX11_moves 118 = .ok (.getfield 42, 3) := by decide +kernel
theorem dX11_moves_121 : decode cX11_moves 121 = .ok (.getfield 264, 3) := by decide +kernel
theorem dX11_moves_124 : decode cX11_moves 124 = .ok (.iload 9, 2) := by decide +kernel
theorem dX11_moves_126 : decode cX11_moves 126 = .ok (.iconst (-1), 1) := by decide +kernel
theorem dX11_moves_127 : decode cX11_moves 127 = .ok (.ixor, 1) := by decide +kernel
theorem dX11_moves_128 : decode cX11_moves 128 = .ok (.iand, 1) := by decide +kernel
theorem dX11_moves_129 : decode cX11_moves 129 = .ok (.istore 10, 2) := by decide +kernel
theorem dX11_moves_131 : decode cX11_moves 131 = .ok (.iload_n 3, 1) := by decide +kernel
theorem dX11_moves_132 : decode cX11_moves 132 = .ok (.iconst 1, 1) := by decide +kernel
theorem dX11_moves_133 : decode cX11_moves 133 = .ok (.if_icmp .ne 24, 3) := by decide +kernel
theorem dX11_moves_136 : decode cX11_moves 136 = .ok (.iload 9, 2) := by decide +kernel
theorem dX11_moves_138 : decode cX11_moves 138 = .ok (.iload 6, 2) := by decide +kernel
theorem dX11_moves_140 : decode cX11_moves 140 = .ok (.iconst (-1), 1) := by decide +kernel
theorem dX11_moves_141 : decode cX11_moves 141 = .ok (.ixor, 1) := by decide +kernel
theorem dX11_moves_142 : decode cX11_moves 142 = .ok (.iand, 1) := by decide +kernel
theorem dX11_moves_143 : decode cX11_moves 143 = .ok (.ifCond .ne 11, 3) := by decide +kernel
theorem dX11_moves_146 : decode cX11_moves 146 = .ok (.iload 10, 2) := by decide +kernel
theorem dX11_moves_148 : decode cX11_moves 148 = .ok (.iload 6, 2) := by decide +kernel
theorem dX11_moves_150 : decode cX11_moves 150 = .ok (.iand, 1) := by decide +kernel
theorem dX11_moves_151 : decode cX11_moves 151 = .ok (.goto 4, 3) := by decide +kernel
theorem dX11_moves_154 : decode cX11_moves 154 = .ok (.iconst 0, 1) := by decide +kernel
theorem dX11_moves_155 : decode cX11_moves 155 = .ok (.istore 10, 2) := by decide +kernel
theorem dX11_moves_157 : decode cX11_moves 157 = .ok (.iload 7, 2) := by decide +kernel
theorem dX11_moves_159 : decode cX11_moves 159 = .ok (.iload 10, 2) := by decide +kernel
theorem dX11_moves_161 : decode cX11_moves 161 = .ok (.invokestatic 246, 3) := by decide +kernel
theorem dX11_moves_164 : decode cX11_moves 164 = .ok (.iadd, 1) := by decide +kernel
theorem dX11_moves_165 : decode cX11_moves 165 = .ok (.istore 7, 2) := by decide +kernel
theorem dX11_moves_167 : decode cX11_moves 167 = .ok (.iinc 8 1, 3) := by decide +kernel
theorem dX11_moves_170 : decode cX11_moves 170 = .ok (.goto (-120), 3) := by decide +kernel
theorem dX11_moves_173 : decode cX11_moves 173 = .ok (.iload 7, 2) := by decide +kernel
theorem dX11_moves_175 : decode cX11_moves 175 = .ok (.ireturn, 1) := by decide +kernel
theorem dX11_tableAt_12 : decode cX11_tableAt 12 = .ok (.aload_n 0, 1) := by decide +kernel
theorem dX11_tableAt_13 : decode cX11_tableAt 13 = .ok (.getfield 48, 3) := by decide +kernel
theorem dX11_tableAt_16 : decode cX11_tableAt 16 = .ok (.iload_n 1, 1) := by decide +kernel
theorem dX11_tableAt_17 : decode cX11_tableAt 17 = .ok (.aaload, 1) := by decide +kernel
theorem dX11_tableAt_18 : decode cX11_tableAt 18 = .ok (.goto 4, 3) := by decide +kernel
theorem dX11_knows_11 : decode cX11_knows 11 = .ok (.iload_n 2, 1) := by decide +kernel
theorem dX11_knows_12 : decode cX11_knows 12 = .ok (.iconst (-1), 1) := by decide +kernel
theorem dX11_knows_13 : decode cX11_knows 13 = .ok (.if_icmp .lt 11, 3) := by decide +kernel
theorem dX11_knows_16 : decode cX11_knows 16 = .ok (.iload_n 2, 1) := by decide +kernel
theorem dX11_knows_17 : decode cX11_knows 17 = .ok (.aload_n 0, 1) := by decide +kernel
theorem dX11_knows_18 : decode cX11_knows 18 = .ok (.getfield 52, 3) := by decide +kernel
theorem dX11_knows_21 : decode cX11_knows 21 = .ok (.if_icmp .lt 6, 3) := by decide +kernel
theorem dX11_knows_27 : decode cX11_knows 27 = .ok (.aload_n 0, 1) := by decide +kernel
theorem dX11_knows_28 : decode cX11_knows 28 = .ok (.getfield 26, 3) := by decide +kernel
theorem dX11_knows_31 : decode cX11_knows 31 = .ok (.getfield 160, 3) := by decide +kernel
theorem dX11_knows_34 : decode cX11_knows 34 = .ok (.iload_n 1, 1) := by decide +kernel
theorem dX11_knows_35 : decode cX11_knows 35 = .ok (.iaload, 1) := by decide +kernel
theorem dX11_knows_36 : decode cX11_knows 36 = .ok (.istore_n 3, 1) := by decide +kernel
theorem dX11_knows_37 : decode cX11_knows 37 = .ok (.aload_n 0, 1) := by decide +kernel
theorem dX11_knows_38 : decode cX11_knows 38 = .ok (.getfield 26, 3) := by decide +kernel
theorem dX11_knows_41 : decode cX11_knows 41 = .ok (.getfield 160, 3) := by decide +kernel
theorem dX11_knows_44 : decode cX11_knows 44 = .ok (.iload_n 1, 1) := by decide +kernel
theorem dX11_knows_45 : decode cX11_knows 45 = .ok (.iload_n 2, 1) := by decide +kernel
theorem dX11_knows_46 : decode cX11_knows 46 = .ok (.iastore, 1) := by decide +kernel
theorem dX11_knows_47 : decode cX11_knows 47 = .ok (.iload_n 3, 1) := by decide +kernel
theorem dX11_knows_48 : decode cX11_knows 48 = .ok (.ireturn, 1) := by decide +kernel
theorem dX11_write_11 : decode cX11_write 11 = .ok (.aload_n 0, 1) := by decide +kernel
theorem dX11_write_12 : decode cX11_write 12 = .ok (.getfield 19, 3) := by decide +kernel
theorem dX11_write_15 : decode cX11_write 15 = .ok (.iload_n 2, 1) := by decide +kernel
theorem dX11_write_16 : decode cX11_write 16 = .ok (.invokevirtual 123, 3) := by decide +kernel
theorem dX11_write_19 : decode cX11_write 19 = .ok (.ifCond .ne 5, 3) := by decide +kernel
theorem dX11_write_24 : decode cX11_write 24 = .ok (.aload_n 0, 1) := by decide +kernel
theorem dX11_write_25 : decode cX11_write 25 = .ok (.aload_n 0, 1) := by decide +kernel
theorem dX11_write_26 : decode cX11_write 26 = .ok (.getfield 26, 3) := by decide +kernel
theorem dX11_write_29 : decode cX11_write 29 = .ok (.getfield 160, 3) := by decide +kernel
theorem dX11_write_32 : decode cX11_write 32 = .ok (.iload_n 1, 1) := by decide +kernel
theorem dX11_write_33 : decode cX11_write 33 = .ok (.iaload, 1) := by decide +kernel
theorem dX11_write_34 : decode cX11_write 34 = .ok (.invokevirtual 192, 3) := by decide +kernel
theorem dX11_write_37 : decode cX11_write 37 = .ok (.astore_n 3, 1) := by decide +kernel
theorem dX11_write_38 : decode cX11_write 38 = .ok (.aload_n 3, 1) := by decide +kernel
theorem dX11_write_39 : decode cX11_write 39 = .ok (.ifnull 14, 3) := by decide +kernel
theorem dX11_write_42 : decode cX11_write 42 = .ok (.aload_n 0, 1) := by decide +kernel
theorem dX11_write_43 : decode cX11_write 43 = .ok (.getfield 26, 3) := by decide +kernel
theorem dX11_write_46 : decode cX11_write 46 = .ok (.iload_n 1, 1) := by decide +kernel
theorem dX11_write_47 : decode cX11_write 47 = .ok (.invokevirtual 267, 3) := by decide +kernel
theorem dX11_write_50 : decode cX11_write 50 = .ok (.ifCond .ne 6, 3) := by decide +kernel
theorem dX11_write_53 : decode cX11_write 53 = .ok (.bipush (-5), 2) := by decide +kernel
theorem dX11_write_55 : decode cX11_write 55 = .ok (.ireturn, 1) := by decide +kernel
theorem dX11_write_56 : decode cX11_write 56 = .ok (.aload_n 0, 1) := by decide +kernel
theorem dX11_write_57 : decode cX11_write 57 = .ok (.getfield 66, 3) := by decide +kernel
theorem dX11_write_60 : decode cX11_write 60 = .ok (.aload_n 3, 1) := by decide +kernel
theorem dX11_write_61 : decode cX11_write 61 = .ok (.iload_n 2, 1) := by decide +kernel
theorem dX11_write_62 : decode cX11_write 62 = .ok (.invokevirtual 270, 3) := by decide +kernel
theorem dX11_write_65 : decode cX11_write 65 = .ok (.ireturn, 1) := by decide +kernel
theorem dX11_read_11 : decode cX11_read 11 = .ok (.aload_n 0, 1) := by decide +kernel
theorem dX11_read_12 : decode cX11_read 12 = .ok (.getfield 19, 3) := by decide +kernel
theorem dX11_read_15 : decode cX11_read 15 = .ok (.iload_n 2, 1) := by decide +kernel
theorem dX11_read_16 : decode cX11_read 16 = .ok (.invokevirtual 123, 3) := by decide +kernel
theorem dX11_read_19 : decode cX11_read 19 = .ok (.ifCond .ne 5, 3) := by decide +kernel
theorem dX11_read_24 : decode cX11_read 24 = .ok (.aload_n 0, 1) := by decide +kernel
theorem dX11_read_25 : decode cX11_read 25 = .ok (.aload_n 0, 1) := by decide +kernel
theorem dX11_read_26 : decode cX11_read 26 = .ok (.getfield 26, 3) := by decide +kernel
theorem dX11_read_29 : decode cX11_read 29 = .ok (.getfield 160, 3) := by decide +kernel
theorem dX11_read_32 : decode cX11_read 32 = .ok (.iload_n 1, 1) := by decide +kernel
theorem dX11_read_33 : decode cX11_read 33 = .ok (.iaload, 1) := by decide +kernel
theorem dX11_read_34 : decode cX11_read 34 = .ok (.invokevirtual 192, 3) := by decide +kernel
theorem dX11_read_37 : decode cX11_read 37 = .ok (.astore_n 3, 1) := by decide +kernel
theorem dX11_read_38 : decode cX11_read 38 = .ok (.aload_n 3, 1) := by decide +kernel
theorem dX11_read_39 : decode cX11_read 39 = .ok (.ifnull 14, 3) := by decide +kernel
theorem dX11_read_42 : decode cX11_read 42 = .ok (.aload_n 0, 1) := by decide +kernel
theorem dX11_read_43 : decode cX11_read 43 = .ok (.getfield 26, 3) := by decide +kernel
theorem dX11_read_46 : decode cX11_read 46 = .ok (.iload_n 1, 1) := by decide +kernel
theorem dX11_read_47 : decode cX11_read 47 = .ok (.invokevirtual 267, 3) := by decide +kernel
theorem dX11_read_50 : decode cX11_read 50 = .ok (.ifCond .ne 6, 3) := by decide +kernel
theorem dX11_read_53 : decode cX11_read 53 = .ok (.bipush (-5), 2) := by decide +kernel
theorem dX11_read_55 : decode cX11_read 55 = .ok (.ireturn, 1) := by decide +kernel
theorem dX11_read_56 : decode cX11_read 56 = .ok (.aload_n 0, 1) := by decide +kernel
theorem dX11_read_57 : decode cX11_read 57 = .ok (.getfield 66, 3) := by decide +kernel
theorem dX11_read_60 : decode cX11_read 60 = .ok (.aload_n 3, 1) := by decide +kernel
theorem dX11_read_61 : decode cX11_read 61 = .ok (.iload_n 2, 1) := by decide +kernel
theorem dX11_read_62 : decode cX11_read 62 = .ok (.invokevirtual 274, 3) := by decide +kernel
theorem dX11_read_65 : decode cX11_read 65 = .ok (.ireturn, 1) := by decide +kernel
theorem dX11_onShelf_11 : decode cX11_onShelf 11 = .ok (.aload_n 0, 1) := by decide +kernel
theorem dX11_onShelf_12 : decode cX11_onShelf 12 = .ok (.getfield 19, 3) := by decide +kernel
theorem dX11_onShelf_15 : decode cX11_onShelf 15 = .ok (.iload_n 2, 1) := by decide +kernel
theorem dX11_onShelf_16 : decode cX11_onShelf 16 = .ok (.invokevirtual 123, 3) := by decide +kernel
theorem dX11_onShelf_19 : decode cX11_onShelf 19 = .ok (.ifCond .ne 5, 3) := by decide +kernel
theorem dX11_onShelf_24 : decode cX11_onShelf 24 = .ok (.iload_n 3, 1) := by decide +kernel
theorem dX11_onShelf_25 : decode cX11_onShelf 25 = .ok (.tableswitch 98 0 3 #[31, 43, 55, 86], 31) := by decide +kernel
theorem dX11_onShelf_56 : decode cX11_onShelf 56 = .ok (.aload_n 0, 1) := by decide +kernel
theorem dX11_onShelf_57 : decode cX11_onShelf 57 = .ok (.getfield 66, 3) := by decide +kernel
theorem dX11_onShelf_60 : decode cX11_onShelf 60 = .ok (.getfield 277, 3) := by decide +kernel
theorem dX11_onShelf_63 : decode cX11_onShelf 63 = .ok (.iload_n 1, 1) := by decide +kernel
theorem dX11_onShelf_64 : decode cX11_onShelf 64 = .ok (.aaload, 1) := by decide +kernel
theorem dX11_onShelf_65 : decode cX11_onShelf 65 = .ok (.iload_n 2, 1) := by decide +kernel
theorem dX11_onShelf_66 : decode cX11_onShelf 66 = .ok (.iaload, 1) := by decide +kernel
theorem dX11_onShelf_67 : decode cX11_onShelf 67 = .ok (.ireturn, 1) := by decide +kernel
theorem dX11_onShelf_68 : decode cX11_onShelf 68 = .ok (.aload_n 0, 1) := by decide +kernel
theorem dX11_onShelf_69 : decode cX11_onShelf 69 = .ok (.getfield 66, 3) := by decide +kernel
theorem dX11_onShelf_72 : decode cX11_onShelf 72 = .ok (.getfield 281, 3) := by decide +kernel
theorem dX11_onShelf_75 : decode cX11_onShelf 75 = .ok (.iload_n 1, 1) := by decide +kernel
theorem dX11_onShelf_76 : decode cX11_onShelf 76 = .ok (.aaload, 1) := by decide +kernel
theorem dX11_onShelf_77 : decode cX11_onShelf 77 = .ok (.iload_n 2, 1) := by decide +kernel
theorem dX11_onShelf_78 : decode cX11_onShelf 78 = .ok (.iaload, 1) := by decide +kernel
theorem dX11_onShelf_79 : decode cX11_onShelf 79 = .ok (.ireturn, 1) := by decide +kernel
theorem dX11_onShelf_80 : decode cX11_onShelf 80 = .ok (.aload_n 0, 1) := by decide +kernel
theorem dX11_onShelf_81 : decode cX11_onShelf 81 = .ok (.getfield 66, 3) := by decide +kernel
theorem dX11_onShelf_84 : decode cX11_onShelf 84 = .ok (.getfield 281, 3) := by decide +kernel
theorem dX11_onShelf_87 : decode cX11_onShelf 87 = .ok (.iload_n 1, 1) := by decide +kernel
theorem dX11_onShelf_88 : decode cX11_onShelf 88 = .ok (.aaload, 1) := by decide +kernel
theorem dX11_onShelf_89 : decode cX11_onShelf 89 = .ok (.iload_n 2, 1) := by decide +kernel
theorem dX11_onShelf_90 : decode cX11_onShelf 90 = .ok (.iaload, 1) := by decide +kernel
theorem dX11_onShelf_91 : decode cX11_onShelf 91 = .ok (.ifCond .ne 8, 3) := by decide +kernel
theorem dX11_onShelf_94 : decode cX11_onShelf 94 = .ok (.bipush (-2), 2) := by decide +kernel
theorem dX11_onShelf_96 : decode cX11_onShelf 96 = .ok (.goto 14, 3) := by decide +kernel
theorem dX11_onShelf_99 : decode cX11_onShelf 99 = .ok (.aload_n 0, 1) := by decide +kernel
theorem dX11_onShelf_100 : decode cX11_onShelf 100 = .ok (.getfield 66, 3) := by decide +kernel
theorem dX11_onShelf_103 : decode cX11_onShelf 103 = .ok (.getfield 284, 3) := by decide +kernel
theorem dX11_onShelf_106 : decode cX11_onShelf 106 = .ok (.iload_n 1, 1) := by decide +kernel
theorem dX11_onShelf_107 : decode cX11_onShelf 107 = .ok (.aaload, 1) := by decide +kernel
theorem dX11_onShelf_108 : decode cX11_onShelf 108 = .ok (.iload_n 2, 1) := by decide +kernel
theorem dX11_onShelf_109 : decode cX11_onShelf 109 = .ok (.iaload, 1) := by decide +kernel
theorem dX11_onShelf_110 : decode cX11_onShelf 110 = .ok (.ireturn, 1) := by decide +kernel
theorem dX11_onShelf_111 : decode cX11_onShelf 111 = .ok (.aload_n 0, 1) := by decide +kernel
theorem dX11_onShelf_112 : decode cX11_onShelf 112 = .ok (.getfield 66, 3) := by decide +kernel
theorem dX11_onShelf_115 : decode cX11_onShelf 115 = .ok (.getfield 287, 3) := by decide +kernel
theorem dX11_onShelf_118 : decode cX11_onShelf 118 = .ok (.iload_n 1, 1) := by decide +kernel
theorem dX11_onShelf_119 : decode cX11_onShelf 119 = .ok (.aaload, 1) := by decide +kernel
theorem dX11_onShelf_120 : decode cX11_onShelf 120 = .ok (.iload_n 2, 1) := by decide +kernel
theorem dX11_onShelf_121 : decode cX11_onShelf 121 = .ok (.iaload, 1) := by decide +kernel
theorem dX11_onShelf_122 : decode cX11_onShelf 122 = .ok (.ireturn, 1) := by decide +kernel
theorem dX11_onShelf_123 : decode cX11_onShelf 123 = .ok (.iconst (-1), 1) := by decide +kernel
theorem dX11_onShelf_124 : decode cX11_onShelf 124 = .ok (.ireturn, 1) := by decide +kernel
theorem dX11_fall_11 : decode cX11_fall 11 = .ok (.iload_n 2, 1) := by decide +kernel
theorem dX11_fall_12 : decode cX11_fall 12 = .ok (.ifCond .lt 8, 3) := by decide +kernel
theorem dX11_fall_15 : decode cX11_fall 15 = .ok (.iload_n 2, 1) := by decide +kernel
theorem dX11_fall_16 : decode cX11_fall 16 = .ok (.iconst 1, 1) := by decide +kernel
theorem dX11_fall_17 : decode cX11_fall 17 = .ok (.if_icmp .le 5, 3) := by decide +kernel
theorem dX11_fall_22 : decode cX11_fall 22 = .ok (.aload_n 0, 1) := by decide +kernel
theorem dX11_fall_23 : decode cX11_fall 23 = .ok (.getfield 26, 3) := by decide +kernel
theorem dX11_fall_26 : decode cX11_fall 26 = .ok (.getfield 169, 3) := by decide +kernel
theorem dX11_fall_29 : decode cX11_fall 29 = .ok (.iload_n 1, 1) := by decide +kernel
theorem dX11_fall_30 : decode cX11_fall 30 = .ok (.baload, 1) := by decide +kernel
theorem dX11_fall_31 : decode cX11_fall 31 = .ok (.ifCond .eq 7, 3) := by decide +kernel
theorem dX11_fall_34 : decode cX11_fall 34 = .ok (.iconst 1, 1) := by decide +kernel
theorem dX11_fall_35 : decode cX11_fall 35 = .ok (.goto 4, 3) := by decide +kernel
theorem dX11_fall_38 : decode cX11_fall 38 = .ok (.iconst 0, 1) := by decide +kernel
theorem dX11_fall_39 : decode cX11_fall 39 = .ok (.istore_n 3, 1) := by decide +kernel
theorem dX11_fall_40 : decode cX11_fall 40 = .ok (.aload_n 0, 1) := by decide +kernel
theorem dX11_fall_41 : decode cX11_fall 41 = .ok (.getfield 26, 3) := by decide +kernel
theorem dX11_fall_44 : decode cX11_fall 44 = .ok (.getfield 169, 3) := by decide +kernel
theorem dX11_fall_47 : decode cX11_fall 47 = .ok (.iload_n 1, 1) := by decide +kernel
theorem dX11_fall_48 : decode cX11_fall 48 = .ok (.iload_n 2, 1) := by decide +kernel
theorem dX11_fall_49 : decode cX11_fall 49 = .ok (.iconst 1, 1) := by decide +kernel
theorem dX11_fall_50 : decode cX11_fall 50 = .ok (.if_icmp .ne 7, 3) := by decide +kernel
theorem dX11_fall_53 : decode cX11_fall 53 = .ok (.iconst 1, 1) := by decide +kernel
theorem dX11_fall_54 : decode cX11_fall 54 = .ok (.goto 4, 3) := by decide +kernel
theorem dX11_fall_57 : decode cX11_fall 57 = .ok (.iconst 0, 1) := by decide +kernel
theorem dX11_fall_58 : decode cX11_fall 58 = .ok (.bastore, 1) := by decide +kernel
theorem dX11_fall_59 : decode cX11_fall 59 = .ok (.iload_n 2, 1) := by decide +kernel
theorem dX11_fall_60 : decode cX11_fall 60 = .ok (.iconst 1, 1) := by decide +kernel
theorem dX11_fall_61 : decode cX11_fall 61 = .ok (.if_icmp .ne 11, 3) := by decide +kernel
theorem dX11_fall_64 : decode cX11_fall 64 = .ok (.aload_n 0, 1) := by decide +kernel
theorem dX11_fall_65 : decode cX11_fall 65 = .ok (.getfield 66, 3) := by decide +kernel
theorem dX11_fall_68 : decode cX11_fall 68 = .ok (.iload_n 1, 1) := by decide +kernel
theorem dX11_fall_69 : decode cX11_fall 69 = .ok (.invokevirtual 290, 3) := by decide +kernel
theorem dX11_fall_72 : decode cX11_fall 72 = .ok (.iload_n 3, 1) := by decide +kernel
theorem dX11_fall_73 : decode cX11_fall 73 = .ok (.ireturn, 1) := by decide +kernel
theorem dX11_half_11 : decode cX11_half 11 = .ok (.aload_n 0, 1) := by decide +kernel
theorem dX11_half_12 : decode cX11_half 12 = .ok (.getfield 26, 3) := by decide +kernel
theorem dX11_half_15 : decode cX11_half 15 = .ok (.iload_n 2, 1) := by decide +kernel
theorem dX11_half_16 : decode cX11_half 16 = .ok (.invokevirtual 137, 3) := by decide +kernel
theorem dX11_half_19 : decode cX11_half 19 = .ok (.ifCond .eq 19, 3) := by decide +kernel
theorem dX11_half_22 : decode cX11_half 22 = .ok (.aload_n 0, 1) := by decide +kernel
theorem dX11_half_23 : decode cX11_half 23 = .ok (.getfield 26, 3) := by decide +kernel
theorem dX11_half_26 : decode cX11_half 26 = .ok (.iload_n 3, 1) := by decide +kernel
theorem dX11_half_27 : decode cX11_half 27 = .ok (.invokevirtual 137, 3) := by decide +kernel
theorem dX11_half_30 : decode cX11_half 30 = .ok (.ifCond .eq 8, 3) := by decide +kernel
theorem dX11_half_33 : decode cX11_half 33 = .ok (.iload_n 2, 1) := by decide +kernel
theorem dX11_half_34 : decode cX11_half 34 = .ok (.iload_n 3, 1) := by decide +kernel
theorem dX11_half_35 : decode cX11_half 35 = .ok (.if_icmp .ne 5, 3) := by decide +kernel
theorem dX11_half_40 : decode cX11_half 40 = .ok (.aload_n 0, 1) := by decide +kernel
theorem dX11_half_41 : decode cX11_half 41 = .ok (.getfield 66, 3) := by decide +kernel
theorem dX11_half_44 : decode cX11_half 44 = .ok (.getfield 277, 3) := by decide +kernel
theorem dX11_half_47 : decode cX11_half 47 = .ok (.iload_n 2, 1) := by decide +kernel
theorem dX11_half_48 : decode cX11_half 48 = .ok (.aaload, 1) := by decide +kernel
theorem dX11_half_49 : decode cX11_half 49 = .ok (.iload_n 1, 1) := by decide +kernel
theorem dX11_half_50 : decode cX11_half 50 = .ok (.iaload, 1) := by decide +kernel
theorem dX11_half_51 : decode cX11_half 51 = .ok (.ifCond .ne 6, 3) := by decide +kernel
theorem dX11_half_54 : decode cX11_half 54 = .ok (.bipush (-2), 2) := by decide +kernel
theorem dX11_half_56 : decode cX11_half 56 = .ok (.ireturn, 1) := by decide +kernel
theorem dX11_half_57 : decode cX11_half 57 = .ok (.aload_n 0, 1) := by decide +kernel
theorem dX11_half_58 : decode cX11_half 58 = .ok (.getfield 66, 3) := by decide +kernel
theorem dX11_half_61 : decode cX11_half 61 = .ok (.iload_n 1, 1) := by decide +kernel
theorem dX11_half_62 : decode cX11_half 62 = .ok (.iload_n 2, 1) := by decide +kernel
theorem dX11_half_63 : decode cX11_half 63 = .ok (.iload_n 3, 1) := by decide +kernel
theorem dX11_half_64 : decode cX11_half 64 = .ok (.invokevirtual 293, 3) := by decide +kernel
theorem dX11_half_67 : decode cX11_half 67 = .ok (.ireturn, 1) := by decide +kernel
theorem dX11_mend_12 : decode cX11_mend 12 = .ok (.aload_n 0, 1) := by decide +kernel
theorem dX11_mend_13 : decode cX11_mend 13 = .ok (.getfield 66, 3) := by decide +kernel
theorem dX11_mend_16 : decode cX11_mend 16 = .ok (.aload_n 2, 1) := by decide +kernel
theorem dX11_mend_17 : decode cX11_mend 17 = .ok (.invokevirtual 297, 3) := by decide +kernel
theorem dX11_mend_20 : decode cX11_mend 20 = .ok (.ireturn, 1) := by decide +kernel
theorem dX11_trees_11 : decode cX11_trees 11 = .ok (.aload_n 0, 1) := by decide +kernel
theorem dX11_trees_12 : decode cX11_trees 12 = .ok (.getfield 26, 3) := by decide +kernel
theorem dX11_trees_15 : decode cX11_trees 15 = .ok (.iload_n 2, 1) := by decide +kernel
theorem dX11_trees_16 : decode cX11_trees 16 = .ok (.invokevirtual 137, 3) := by decide +kernel
theorem dX11_trees_19 : decode cX11_trees 19 = .ok (.ifCond .eq 8, 3) := by decide +kernel
theorem dX11_trees_22 : decode cX11_trees 22 = .ok (.iload_n 1, 1) := by decide +kernel
theorem dX11_trees_23 : decode cX11_trees 23 = .ok (.iload_n 2, 1) := by decide +kernel
theorem dX11_trees_24 : decode cX11_trees 24 = .ok (.if_icmp .ne 5, 3) := by decide +kernel
theorem dX11_trees_29 : decode cX11_trees 29 = .ok (.iload_n 3, 1) := by decide +kernel
theorem dX11_trees_30 : decode cX11_trees 30 = .ok (.ifCond .lt 8, 3) := by decide +kernel
theorem dX11_trees_33 : decode cX11_trees 33 = .ok (.iload_n 3, 1) := by decide +kernel
theorem dX11_trees_34 : decode cX11_trees 34 = .ok (.iconst 1, 1) := by decide +kernel
theorem dX11_trees_35 : decode cX11_trees 35 = .ok (.if_icmp .le 5, 3) := by decide +kernel
theorem dX11_trees_38 : decode cX11_trees 38 = .ok (.iconst (-1), 1) := by decide +kernel
theorem dX11_trees_39 : decode cX11_trees 39 = .ok (.ireturn, 1) := by decide +kernel
theorem dX11_trees_40 : decode cX11_trees 40 = .ok (.aload_n 0, 1) := by decide +kernel
theorem dX11_trees_41 : decode cX11_trees 41 = .ok (.getfield 66, 3) := by decide +kernel
theorem dX11_trees_44 : decode cX11_trees 44 = .ok (.iload_n 1, 1) := by decide +kernel
theorem dX11_trees_45 : decode cX11_trees 45 = .ok (.iload_n 2, 1) := by decide +kernel
theorem dX11_trees_46 : decode cX11_trees 46 = .ok (.invokevirtual 300, 3) := by decide +kernel
theorem dX11_trees_49 : decode cX11_trees 49 = .ok (.iload_n 3, 1) := by decide +kernel
theorem dX11_trees_50 : decode cX11_trees 50 = .ok (.ifCond .ne 13, 3) := by decide +kernel
theorem dX11_trees_53 : decode cX11_trees 53 = .ok (.aload_n 0, 1) := by decide +kernel
theorem dX11_trees_54 : decode cX11_trees 54 = .ok (.getfield 66, 3) := by decide +kernel
theorem dX11_trees_57 : decode cX11_trees 57 = .ok (.invokevirtual 303, 3) := by decide +kernel
theorem dX11_trees_60 : decode cX11_trees 60 = .ok (.goto 10, 3) := by decide +kernel
theorem dX11_trees_63 : decode cX11_trees 63 = .ok (.aload_n 0, 1) := by decide +kernel
theorem dX11_trees_64 : decode cX11_trees 64 = .ok (.getfield 66, 3) := by decide +kernel
theorem dX11_trees_67 : decode cX11_trees 67 = .ok (.invokevirtual 306, 3) := by decide +kernel
theorem dX11_trees_70 : decode cX11_trees 70 = .ok (.ireturn, 1) := by decide +kernel
theorem dX11_noon_12 : decode cX11_noon 12 = .ok (.iload_n 2, 1) := by decide +kernel
theorem dX11_noon_13 : decode cX11_noon 13 = .ok (.ifCond .lt 21, 3) := by decide +kernel
theorem dX11_noon_16 : decode cX11_noon 16 = .ok (.iload_n 2, 1) := by decide +kernel
theorem dX11_noon_17 : decode cX11_noon 17 = .ok (.sipush 9999, 3) := by decide +kernel
theorem dX11_noon_20 : decode cX11_noon 20 = .ok (.if_icmp .gt 14, 3) := by decide +kernel
theorem dX11_noon_23 : decode cX11_noon 23 = .ok (.iload_n 3, 1) := by decide +kernel
theorem dX11_noon_24 : decode cX11_noon 24 = .ok (.ifCond .lt 10, 3) := by decide +kernel
theorem dX11_noon_27 : decode cX11_noon 27 = .ok (.iload_n 3, 1) := by decide +kernel
theorem dX11_noon_28 : decode cX11_noon 28 = .ok (.sipush 9999, 3) := by decide +kernel
theorem dX11_noon_31 : decode cX11_noon 31 = .ok (.if_icmp .le 5, 3) := by decide +kernel
theorem dX11_noon_36 : decode cX11_noon 36 = .ok (.aload 4, 2) := by decide +kernel
theorem dX11_noon_38 : decode cX11_noon 38 = .ok (.getfield 196, 3) := by decide +kernel
theorem dX11_noon_41 : decode cX11_noon 41 = .ok (.invokestatic 246, 3) := by decide +kernel
theorem dX11_noon_44 : decode cX11_noon 44 = .ok (.istore 5, 2) := by decide +kernel
theorem dX11_noon_46 : decode cX11_noon 46 = .ok (.iconst 1, 1) := by decide +kernel
theorem dX11_noon_47 : decode cX11_noon 47 = .ok (.istore 6, 2) := by decide +kernel
theorem dX11_noon_49 : decode cX11_noon 49 = .ok (.iload 6, 2) := by decide +kernel
theorem dX11_noon_51 : decode cX11_noon 51 = .ok (.iload 5, 2) := by decide +kernel
theorem dX11_noon_53 : decode cX11_noon 53 = .ok (.if_icmp .gt 22, 3) := by decide +kernel
theorem dX11_noon_56 : decode cX11_noon 56 = .ok (.iload_n 2, 1) := by decide +kernel
theorem dX11_noon_57 : decode cX11_noon 57 = .ok (.iload 6, 2) := by decide +kernel
theorem dX11_noon_59 : decode cX11_noon 59 = .ok (.invokestatic 309, 3) := by decide +kernel
theorem dX11_noon_62 : decode cX11_noon 62 = .ok (.iload_n 3, 1) := by decide +kernel
theorem dX11_noon_63 : decode cX11_noon 63 = .ok (.if_icmp .gt 6, 3) := by decide +kernel
theorem dX11_noon_66 : decode cX11_noon 66 = .ok (.iload 6, 2) := by decide +kernel
theorem dX11_noon_68 : decode cX11_noon 68 = .ok (.ireturn, 1) := by decide +kernel
theorem dX11_noon_69 : decode cX11_noon 69 = .ok (.iinc 6 1, 3) := by decide +kernel
theorem dX11_noon_72 : decode cX11_noon 72 = .ok (.goto (-23), 3) := by decide +kernel
theorem dX11_noon_75 : decode cX11_noon 75 = .ok (.bipush (-2), 2) := by decide +kernel
theorem dX11_noon_77 : decode cX11_noon 77 = .ok (.ireturn, 1) := by decide +kernel
theorem dX11_lies_11 : decode cX11_lies 11 = .ok (.iload_n 2, 1) := by decide +kernel
theorem dX11_lies_12 : decode cX11_lies 12 = .ok (.ifCond .lt 14, 3) := by decide +kernel
theorem dX11_lies_15 : decode cX11_lies 15 = .ok (.iload_n 3, 1) := by decide +kernel
theorem dX11_lies_16 : decode cX11_lies 16 = .ok (.iconst 1, 1) := by decide +kernel
theorem dX11_lies_17 : decode cX11_lies 17 = .ok (.if_icmp .lt 9, 3) := by decide +kernel
theorem dX11_lies_20 : decode cX11_lies 20 = .ok (.iload_n 3, 1) := by decide +kernel
theorem dX11_lies_21 : decode cX11_lies 21 = .ok (.bipush 99, 2) := by decide +kernel
theorem dX11_lies_23 : decode cX11_lies 23 = .ok (.if_icmp .le 5, 3) := by decide +kernel
theorem dX11_lies_28 : decode cX11_lies 28 = .ok (.iload_n 2, 1) := by decide +kernel
theorem dX11_lies_29 : decode cX11_lies 29 = .ok (.iload_n 3, 1) := by decide +kernel
theorem dX11_lies_30 : decode cX11_lies 30 = .ok (.if_icmp .gt 14, 3) := by decide +kernel
theorem dX11_lies_33 : decode cX11_lies 33 = .ok (.iload 4, 2) := by decide +kernel
theorem dX11_lies_35 : decode cX11_lies 35 = .ok (.ifCond .lt 9, 3) := by decide +kernel
theorem dX11_lies_38 : decode cX11_lies 38 = .ok (.iload 4, 2) := by decide +kernel
theorem dX11_lies_40 : decode cX11_lies 40 = .ok (.iconst 1, 1) := by decide +kernel
theorem dX11_lies_41 : decode cX11_lies 41 = .ok (.if_icmp .le 5, 3) := by decide +kernel
theorem dX11_lies_44 : decode cX11_lies 44 = .ok (.iconst (-1), 1) := by decide +kernel
theorem dX11_lies_45 : decode cX11_lies 45 = .ok (.ireturn, 1) := by decide +kernel
theorem dX11_lies_46 : decode cX11_lies 46 = .ok (.aload_n 0, 1) := by decide +kernel
theorem dX11_lies_47 : decode cX11_lies 47 = .ok (.getfield 26, 3) := by decide +kernel
theorem dX11_lies_50 : decode cX11_lies 50 = .ok (.getfield 149, 3) := by decide +kernel
theorem dX11_lies_53 : decode cX11_lies 53 = .ok (.iload_n 1, 1) := by decide +kernel
theorem dX11_lies_54 : decode cX11_lies 54 = .ok (.iaload, 1) := by decide +kernel
theorem dX11_lies_55 : decode cX11_lies 55 = .ok (.istore 5, 2) := by decide +kernel
theorem dX11_lies_57 : decode cX11_lies 57 = .ok (.iconst 1, 1) := by decide +kernel
theorem dX11_lies_58 : decode cX11_lies 58 = .ok (.iload 5, 2) := by decide +kernel
theorem dX11_lies_60 : decode cX11_lies 60 = .ok (.iload_n 3, 1) := by decide +kernel
theorem dX11_lies_61 : decode cX11_lies 61 = .ok (.iload_n 2, 1) := by decide +kernel
theorem dX11_lies_62 : decode cX11_lies 62 = .ok (.isub, 1) := by decide +kernel
theorem dX11_lies_63 : decode cX11_lies 63 = .ok (.imul, 1) := by decide +kernel
theorem dX11_lies_64 : decode cX11_lies 64 = .ok (.iload_n 3, 1) := by decide +kernel
theorem dX11_lies_65 : decode cX11_lies 65 = .ok (.invokestatic 309, 3) := by decide +kernel
theorem dX11_lies_68 : decode cX11_lies 68 = .ok (.invokestatic 312, 3) := by decide +kernel
theorem dX11_lies_71 : decode cX11_lies 71 = .ok (.istore 6, 2) := by decide +kernel
theorem dX11_lies_73 : decode cX11_lies 73 = .ok (.iload 4, 2) := by decide +kernel
theorem dX11_lies_75 : decode cX11_lies 75 = .ok (.ifCond .ne 8, 3) := by decide +kernel
theorem dX11_lies_78 : decode cX11_lies 78 = .ok (.iload 6, 2) := by decide +kernel
theorem dX11_lies_80 : decode cX11_lies 80 = .ok (.goto 10, 3) := by decide +kernel
theorem dX11_lies_83 : decode cX11_lies 83 = .ok (.iconst 4, 1) := by decide +kernel
theorem dX11_lies_84 : decode cX11_lies 84 = .ok (.iload 5, 2) := by decide +kernel
theorem dX11_lies_86 : decode cX11_lies 86 = .ok (.iload 6, 2) := by decide +kernel
theorem dX11_lies_88 : decode cX11_lies 88 = .ok (.isub, 1) := by decide +kernel
theorem dX11_lies_89 : decode cX11_lies 89 = .ok (.imul, 1) := by decide +kernel
theorem dX11_lies_90 : decode cX11_lies 90 = .ok (.ireturn, 1) := by decide +kernel
theorem dX11_upward_0 : decode cX11_upward 0 = .ok (.iload_n 1, 1) := by decide +kernel
theorem dX11_upward_1 : decode cX11_upward 1 = .ok (.ifCond .le 13, 3) := by decide +kernel
theorem dX11_upward_4 : decode cX11_upward 4 = .ok (.iload_n 0, 1) := by decide +kernel
theorem dX11_upward_5 : decode cX11_upward 5 = .ok (.iload_n 1, 1) := by decide +kernel
theorem dX11_upward_6 : decode cX11_upward 6 = .ok (.iadd, 1) := by decide +kernel
theorem dX11_upward_7 : decode cX11_upward 7 = .ok (.iconst 1, 1) := by decide +kernel
theorem dX11_upward_8 : decode cX11_upward 8 = .ok (.isub, 1) := by decide +kernel
theorem dX11_upward_9 : decode cX11_upward 9 = .ok (.iload_n 1, 1) := by decide +kernel
theorem dX11_upward_10 : decode cX11_upward 10 = .ok (.idiv, 1) := by decide +kernel
theorem dX11_upward_11 : decode cX11_upward 11 = .ok (.goto 4, 3) := by decide +kernel
theorem dX11_upward_14 : decode cX11_upward 14 = .ok (.iconst 0, 1) := by decide +kernel
theorem dX11_upward_15 : decode cX11_upward 15 = .ok (.ireturn, 1) := by decide +kernel
theorem dX11_comes_11 : decode cX11_comes 11 = .ok (.aload_n 0, 1) := by decide +kernel
theorem dX11_comes_12 : decode cX11_comes 12 = .ok (.getfield 75, 3) := by decide +kernel
theorem dX11_comes_15 : decode cX11_comes 15 = .ok (.iload_n 1, 1) := by decide +kernel
theorem dX11_comes_16 : decode cX11_comes 16 = .ok (.invokevirtual 317, 3) := by decide +kernel
theorem dX11_comes_19 : decode cX11_comes 19 = .ok (.ifCond .eq 5, 3) := by decide +kernel
theorem dX11_comes_24 : decode cX11_comes 24 = .ok (.aload_n 0, 1) := by decide +kernel
theorem dX11_comes_25 : decode cX11_comes 25 = .ok (.getfield 75, 3) := by decide +kernel
theorem dX11_comes_28 : decode cX11_comes 28 = .ok (.getfield 320, 3) := by decide +kernel
theorem dX11_comes_31 : decode cX11_comes 31 = .ok (.iconst 5, 1) := by decide +kernel
theorem dX11_comes_32 : decode cX11_comes 32 = .ok (.if_icmp .lt 6, 3) := by decide +kernel
theorem dX11_comes_35 : decode cX11_comes 35 = .ok (.bipush (-3), 2) := by decide +kernel
theorem dX11_comes_37 : decode cX11_comes 37 = .ok (.ireturn, 1) := by decide +kernel
theorem dX11_comes_38 : decode cX11_comes 38 = .ok (.aload_n 0, 1) := by decide +kernel
theorem dX11_comes_39 : decode cX11_comes 39 = .ok (.getfield 75, 3) := by decide +kernel
theorem dX11_comes_42 : decode cX11_comes 42 = .ok (.getfield 323, 3) := by decide +kernel
theorem dX11_comes_45 : decode cX11_comes 45 = .ok (.aload_n 0, 1) := by decide +kernel
theorem dX11_comes_46 : decode cX11_comes 46 = .ok (.getfield 75, 3) := by decide +kernel
theorem dX11_comes_49 : decode cX11_comes 49 = .ok (.getfield 320, 3) := by decide +kernel
theorem dX11_comes_52 : decode cX11_comes 52 = .ok (.iload_n 1, 1) := by decide +kernel
theorem dX11_comes_53 : decode cX11_comes 53 = .ok (.iastore, 1) := by decide +kernel
theorem dX11_comes_54 : decode cX11_comes 54 = .ok (.aload_n 0, 1) := by decide +kernel
theorem dX11_comes_55 : decode cX11_comes 55 = .ok (.getfield 75, 3) := by decide +kernel
theorem dX11_comes_58 : decode cX11_comes 58 = .ok (.dup, 1) := by decide +kernel
theorem dX11_comes_59 : decode cX11_comes 59 = .ok (.getfield 320, 3) := by decide +kernel
theorem dX11_comes_62 : decode cX11_comes 62 = .ok (.iconst 1, 1) := by decide +kernel
theorem dX11_comes_63 : decode cX11_comes 63 = .ok (.iadd, 1) := by decide +kernel
theorem dX11_comes_64 : decode cX11_comes 64 = .ok (.putfield 320, 3) := by decide +kernel
theorem dX11_comes_67 : decode cX11_comes 67 = .ok (.aload_n 0, 1) := by decide +kernel
theorem dX11_comes_68 : decode cX11_comes 68 = .ok (.getfield 75, 3) := by decide +kernel
theorem dX11_comes_71 : decode cX11_comes 71 = .ok (.getfield 320, 3) := by decide +kernel
theorem dX11_comes_74 : decode cX11_comes 74 = .ok (.ireturn, 1) := by decide +kernel
theorem dX11_order_10 : decode cX11_order 10 = .ok (.aload_n 0, 1) := by decide +kernel
theorem dX11_order_11 : decode cX11_order 11 = .ok (.getfield 75, 3) := by decide +kernel
theorem dX11_order_14 : decode cX11_order 14 = .ok (.getfield 320, 3) := by decide +kernel
theorem dX11_order_17 : decode cX11_order 17 = .ok (.ifCond .ne 5, 3) := by decide +kernel
theorem dX11_order_22 : decode cX11_order 22 = .ok (.aload_n 0, 1) := by decide +kernel
theorem dX11_order_23 : decode cX11_order 23 = .ok (.getfield 75, 3) := by decide +kernel
theorem dX11_order_26 : decode cX11_order 26 = .ok (.aload_n 2, 1) := by decide +kernel
theorem dX11_order_27 : decode cX11_order 27 = .ok (.aload_n 0, 1) := by decide +kernel
theorem dX11_order_28 : decode cX11_order 28 = .ok (.getfield 57, 3) := by decide +kernel
theorem dX11_order_31 : decode cX11_order 31 = .ok (.invokevirtual 326, 3) := by decide +kernel
theorem dX11_order_34 : decode cX11_order 34 = .ok (.istore_n 3, 1) := by decide +kernel
theorem dX11_order_35 : decode cX11_order 35 = .ok (.iload_n 3, 1) := by decide +kernel
theorem dX11_order_36 : decode cX11_order 36 = .ok (.iconst (-1), 1) := by decide +kernel
theorem dX11_order_37 : decode cX11_order 37 = .ok (.if_icmp .ne 8, 3) := by decide +kernel
theorem dX11_order_40 : decode cX11_order 40 = .ok (.bipush (-2), 2) := by decide +kernel
theorem dX11_order_42 : decode cX11_order 42 = .ok (.goto 4, 3) := by decide +kernel
theorem dX11_order_45 : decode cX11_order 45 = .ok (.iload_n 3, 1) := by decide +kernel
theorem dX11_order_46 : decode cX11_order 46 = .ok (.ireturn, 1) := by decide +kernel
theorem dX11_ordered_15 : decode cX11_ordered 15 = .ok (.aload_n 0, 1) := by decide +kernel
theorem dX11_ordered_16 : decode cX11_ordered 16 = .ok (.getfield 75, 3) := by decide +kernel
theorem dX11_ordered_19 : decode cX11_ordered 19 = .ok (.getfield 333, 3) := by decide +kernel
theorem dX11_ordered_22 : decode cX11_ordered 22 = .ok (.iload_n 1, 1) := by decide +kernel
theorem dX11_ordered_23 : decode cX11_ordered 23 = .ok (.iaload, 1) := by decide +kernel
theorem dX11_ordered_24 : decode cX11_ordered 24 = .ok (.goto 4, 3) := by decide +kernel
theorem dX11_turning_12 : decode cX11_turning 12 = .ok (.bipush (-3), 2) := by decide +kernel
theorem dX11_turning_14 : decode cX11_turning 14 = .ok (.ireturn, 1) := by decide +kernel
theorem dX11_harm_10 : decode cX11_harm 10 = .ok (.aload_n 0, 1) := by decide +kernel
theorem dX11_harm_11 : decode cX11_harm 11 = .ok (.getfield 84, 3) := by decide +kernel
theorem dX11_harm_14 : decode cX11_harm 14 = .ok (.getfield 336, 3) := by decide +kernel
theorem dX11_harm_17 : decode cX11_harm 17 = .ok (.ifCond .ne 5, 3) := by decide +kernel
theorem dX11_harm_22 : decode cX11_harm 22 = .ok (.aload_n 0, 1) := by decide +kernel
theorem dX11_harm_23 : decode cX11_harm 23 = .ok (.getfield 84, 3) := by decide +kernel
theorem dX11_harm_26 : decode cX11_harm 26 = .ok (.aload_n 2, 1) := by decide +kernel
theorem dX11_harm_27 : decode cX11_harm 27 = .ok (.aload_n 0, 1) := by decide +kernel
theorem dX11_harm_28 : decode cX11_harm 28 = .ok (.getfield 57, 3) := by decide +kernel
theorem dX11_harm_31 : decode cX11_harm 31 = .ok (.invokevirtual 338, 3) := by decide +kernel
theorem dX11_harm_34 : decode cX11_harm 34 = .ok (.ireturn, 1) := by decide +kernel
theorem dX11_harmed_15 : decode cX11_harmed 15 = .ok (.aload_n 0, 1) := by decide +kernel
theorem dX11_harmed_16 : decode cX11_harmed 16 = .ok (.getfield 84, 3) := by decide +kernel
theorem dX11_harmed_19 : decode cX11_harmed 19 = .ok (.getfield 341, 3) := by decide +kernel
theorem dX11_act_21 : decode cX11_act 21 = .ok (.aload_n 0, 1) := by decide +kernel
theorem dX11_act_22 : decode cX11_act 22 = .ok (.getfield 91, 3) := by decide +kernel
theorem dX11_act_25 : decode cX11_act 25 = .ok (.iload_n 1, 1) := by decide +kernel
theorem dX11_act_26 : decode cX11_act 26 = .ok (.aload_n 0, 1) := by decide +kernel
theorem dX11_act_27 : decode cX11_act 27 = .ok (.getfield 26, 3) := by decide +kernel
theorem dX11_act_30 : decode cX11_act 30 = .ok (.getfield 149, 3) := by decide +kernel
theorem dX11_act_33 : decode cX11_act 33 = .ok (.iload_n 1, 1) := by decide +kernel
theorem dX11_act_34 : decode cX11_act 34 = .ok (.iaload, 1) := by decide +kernel
theorem dX11_act_35 : decode cX11_act 35 = .ok (.aload_n 0, 1) := by decide +kernel
theorem dX11_act_36 : decode cX11_act 36 = .ok (.getfield 26, 3) := by decide +kernel
theorem dX11_act_39 : decode cX11_act 39 = .ok (.getfield 141, 3) := by decide +kernel
theorem dX11_act_42 : decode cX11_act 42 = .ok (.iload_n 1, 1) := by decide +kernel
theorem dX11_act_43 : decode cX11_act 43 = .ok (.iaload, 1) := by decide +kernel
theorem dX11_act_44 : decode cX11_act 44 = .ok (.iload_n 2, 1) := by decide +kernel
theorem dX11_act_45 : decode cX11_act 45 = .ok (.iload_n 3, 1) := by decide +kernel
theorem dX11_act_46 : decode cX11_act 46 = .ok (.invokevirtual 347, 3) := by decide +kernel
theorem dX11_act_49 : decode cX11_act 49 = .ok (.ireturn, 1) := by decide +kernel
theorem dX11_trace_15 : decode cX11_trace 15 = .ok (.iload_n 1, 1) := by decide +kernel
theorem dX11_trace_16 : decode cX11_trace 16 = .ok (.bipush 24, 2) := by decide +kernel
theorem dX11_trace_18 : decode cX11_trace 18 = .ok (.if_icmp .ge 15, 3) := by decide +kernel
theorem dX11_trace_21 : decode cX11_trace 21 = .ok (.aload_n 0, 1) := by decide +kernel
theorem dX11_trace_22 : decode cX11_trace 22 = .ok (.getfield 91, 3) := by decide +kernel
theorem dX11_trace_25 : decode cX11_trace 25 = .ok (.getfield 351, 3) := by decide +kernel
theorem dX11_trace_28 : decode cX11_trace 28 = .ok (.iload_n 1, 1) := by decide +kernel
theorem dX11_trace_29 : decode cX11_trace 29 = .ok (.iaload, 1) := by decide +kernel
theorem dX11_trace_30 : decode cX11_trace 30 = .ok (.goto 4, 3) := by decide +kernel
theorem dX11_put_28 : decode cX11_put 28 = .ok (.aload_n 0, 1) := by decide +kernel
theorem dX11_put_29 : decode cX11_put 29 = .ok (.getfield 98, 3) := by decide +kernel
theorem dX11_put_32 : decode cX11_put 32 = .ok (.getfield 367, 3) := by decide +kernel
theorem dX11_put_35 : decode cX11_put 35 = .ok (.iload_n 1, 1) := by decide +kernel
theorem dX11_put_36 : decode cX11_put 36 = .ok (.aaload, 1) := by decide +kernel
theorem dX11_put_37 : decode cX11_put 37 = .ok (.iload_n 2, 1) := by decide +kernel
theorem dX11_put_38 : decode cX11_put 38 = .ok (.aload_n 0, 1) := by decide +kernel
theorem dX11_put_39 : decode cX11_put 39 = .ok (.getfield 98, 3) := by decide +kernel
theorem dX11_put_42 : decode cX11_put 42 = .ok (.getfield 371, 3) := by decide +kernel
theorem dX11_put_45 : decode cX11_put 45 = .ok (.iload_n 1, 1) := by decide +kernel
theorem dX11_put_46 : decode cX11_put 46 = .ok (.iaload, 1) := by decide +kernel
theorem dX11_put_47 : decode cX11_put 47 = .ok (.lload_n 3, 1) := by decide +kernel
theorem dX11_put_48 : decode cX11_put 48 = .ok (.invokestatic 374, 3) := by decide +kernel
theorem dX11_put_51 : decode cX11_put 51 = .ok (.lastore, 1) := by decide +kernel
theorem dX11_put_52 : decode cX11_put 52 = .ok (.iconst 1, 1) := by decide +kernel
theorem dX11_put_53 : decode cX11_put 53 = .ok (.ireturn, 1) := by decide +kernel
theorem dX11_element_23 : decode cX11_element 23 = .ok (.aload_n 0, 1) := by decide +kernel
theorem dX11_element_24 : decode cX11_element 24 = .ok (.getfield 98, 3) := by decide +kernel
theorem dX11_element_27 : decode cX11_element 27 = .ok (.getfield 367, 3) := by decide +kernel
theorem dX11_element_30 : decode cX11_element 30 = .ok (.iload_n 1, 1) := by decide +kernel
theorem dX11_element_31 : decode cX11_element 31 = .ok (.aaload, 1) := by decide +kernel
theorem dX11_element_32 : decode cX11_element 32 = .ok (.iload_n 2, 1) := by decide +kernel
theorem dX11_element_33 : decode cX11_element 33 = .ok (.laload, 1) := by decide +kernel
theorem dX11_element_34 : decode cX11_element 34 = .ok (.lreturn, 1) := by decide +kernel
theorem dX11_shift_27 : decode cX11_shift 27 = .ok (.aload_n 0, 1) := by decide +kernel
theorem dX11_shift_28 : decode cX11_shift 28 = .ok (.getfield 98, 3) := by decide +kernel
theorem dX11_shift_31 : decode cX11_shift 31 = .ok (.iload_n 3, 1) := by decide +kernel
theorem dX11_shift_32 : decode cX11_shift 32 = .ok (.invokevirtual 382, 3) := by decide +kernel
theorem dX11_shift_35 : decode cX11_shift 35 = .ok (.ifCond .eq 6, 3) := by decide +kernel
theorem dX11_shift_41 : decode cX11_shift 41 = .ok (.aload_n 0, 1) := by decide +kernel
theorem dX11_shift_42 : decode cX11_shift 42 = .ok (.getfield 98, 3) := by decide +kernel
theorem dX11_shift_45 : decode cX11_shift 45 = .ok (.iload_n 1, 1) := by decide +kernel
theorem dX11_shift_46 : decode cX11_shift 46 = .ok (.invokevirtual 385, 3) := by decide +kernel
theorem dX11_shift_49 : decode cX11_shift 49 = .ok (.ifCond .eq 35, 3) := by decide +kernel
theorem dX11_shift_52 : decode cX11_shift 52 = .ok (.aload_n 0, 1) := by decide +kernel
theorem dX11_shift_53 : decode cX11_shift 53 = .ok (.getfield 98, 3) := by decide +kernel
theorem dX11_shift_56 : decode cX11_shift 56 = .ok (.iload_n 3, 1) := by decide +kernel
theorem dX11_shift_57 : decode cX11_shift 57 = .ok (.invokevirtual 385, 3) := by decide +kernel
theorem dX11_shift_60 : decode cX11_shift 60 = .ok (.ifCond .eq 24, 3) := by decide +kernel
theorem dX11_shift_63 : decode cX11_shift 63 = .ok (.aload_n 0, 1) := by decide +kernel
theorem dX11_shift_64 : decode cX11_shift 64 = .ok (.getfield 98, 3) := by decide +kernel
theorem dX11_shift_67 : decode cX11_shift 67 = .ok (.getfield 371, 3) := by decide +kernel
theorem dX11_shift_70 : decode cX11_shift 70 = .ok (.iload_n 1, 1) := by decide +kernel
theorem dX11_shift_71 : decode cX11_shift 71 = .ok (.iaload, 1) := by decide +kernel
theorem dX11_shift_72 : decode cX11_shift 72 = .ok (.aload_n 0, 1) := by decide +kernel
theorem dX11_shift_73 : decode cX11_shift 73 = .ok (.getfield 98, 3) := by decide +kernel
theorem dX11_shift_76 : decode cX11_shift 76 = .ok (.getfield 371, 3) := by decide +kernel
theorem dX11_shift_79 : decode cX11_shift 79 = .ok (.iload_n 3, 1) := by decide +kernel
theorem dX11_shift_80 : decode cX11_shift 80 = .ok (.iaload, 1) := by decide +kernel
theorem dX11_shift_81 : decode cX11_shift 81 = .ok (.if_icmp .eq 6, 3) := by decide +kernel
theorem dX11_shift_84 : decode cX11_shift 84 = .ok (.bipush (-12), 2) := by decide +kernel
theorem dX11_shift_86 : decode cX11_shift 86 = .ok (.ireturn, 1) := by decide +kernel
theorem dX11_shift_87 : decode cX11_shift 87 = .ok (.aload_n 0, 1) := by decide +kernel
theorem dX11_shift_88 : decode cX11_shift 88 = .ok (.getfield 98, 3) := by decide +kernel
theorem dX11_shift_91 : decode cX11_shift 91 = .ok (.iload_n 1, 1) := by decide +kernel
theorem dX11_shift_92 : decode cX11_shift 92 = .ok (.iload_n 2, 1) := by decide +kernel
theorem dX11_shift_93 : decode cX11_shift 93 = .ok (.iload 5, 2) := by decide +kernel
theorem dX11_shift_95 : decode cX11_shift 95 = .ok (.invokevirtual 388, 3) := by decide +kernel
theorem dX11_shift_98 : decode cX11_shift 98 = .ok (.ifCond .eq 18, 3) := by decide +kernel
theorem dX11_shift_101 : decode cX11_shift 101 = .ok (.aload_n 0, 1) := by decide +kernel
theorem dX11_shift_102 : decode cX11_shift 102 = .ok (.getfield 98, 3) := by decide +kernel
theorem dX11_shift_105 : decode cX11_shift 105 = .ok (.iload_n 3, 1) := by decide +kernel
theorem dX11_shift_106 : decode cX11_shift 106 = .ok (.iload 4, 2) := by decide +kernel
theorem dX11_shift_108 : decode cX11_shift 108 = .ok (.iload 5, 2) := by decide +kernel
theorem dX11_shift_110 : decode cX11_shift 110 = .ok (.invokevirtual 388, 3) := by decide +kernel
theorem dX11_shift_113 : decode cX11_shift 113 = .ok (.ifCond .ne 6, 3) := by decide +kernel
theorem dX11_shift_116 : decode cX11_shift 116 = .ok (.bipush (-13), 2) := by decide +kernel
theorem dX11_shift_118 : decode cX11_shift 118 = .ok (.ireturn, 1) := by decide +kernel
theorem dX11_shift_119 : decode cX11_shift 119 = .ok (.aload_n 0, 1) := by decide +kernel
theorem dX11_shift_120 : decode cX11_shift 120 = .ok (.getfield 98, 3) := by decide +kernel
theorem dX11_shift_123 : decode cX11_shift 123 = .ok (.getfield 367, 3) := by decide +kernel
theorem dX11_shift_126 : decode cX11_shift 126 = .ok (.iload_n 1, 1) := by decide +kernel
theorem dX11_shift_127 : decode cX11_shift 127 = .ok (.aaload, 1) := by decide +kernel
theorem dX11_shift_128 : decode cX11_shift 128 = .ok (.iload_n 2, 1) := by decide +kernel
theorem dX11_shift_129 : decode cX11_shift 129 = .ok (.aload_n 0, 1) := by decide +kernel
theorem dX11_shift_130 : decode cX11_shift 130 = .ok (.getfield 98, 3) := by decide +kernel
theorem dX11_shift_133 : decode cX11_shift 133 = .ok (.getfield 367, 3) := by decide +kernel
theorem dX11_shift_136 : decode cX11_shift 136 = .ok (.iload_n 3, 1) := by decide +kernel
theorem dX11_shift_137 : decode cX11_shift 137 = .ok (.aaload, 1) := by decide +kernel
theorem dX11_shift_138 : decode cX11_shift 138 = .ok (.iload 4, 2) := by decide +kernel
theorem dX11_shift_140 : decode cX11_shift 140 = .ok (.iload 5, 2) := by decide +kernel
theorem dX11_shift_142 : decode cX11_shift 142 = .ok (.invokestatic 392, 3) := by decide +kernel
theorem dX11_shift_145 : decode cX11_shift 145 = .ok (.iload 5, 2) := by decide +kernel
theorem dX11_shift_147 : decode cX11_shift 147 = .ok (.ireturn, 1) := by decide +kernel
theorem dX11_taken_30 : decode cX11_taken 30 = .ok (.aload_n 0, 1) := by decide +kernel
theorem dX11_taken_31 : decode cX11_taken 31 = .ok (.getfield 98, 3) := by decide +kernel
theorem dX11_taken_34 : decode cX11_taken 34 = .ok (.getfield 398, 3) := by decide +kernel
theorem dX11_taken_37 : decode cX11_taken 37 = .ok (.iload_n 1, 1) := by decide +kernel
theorem dX11_taken_38 : decode cX11_taken 38 = .ok (.iaload, 1) := by decide +kernel
theorem dX11_taken_39 : decode cX11_taken 39 = .ok (.istore_n 3, 1) := by decide +kernel
theorem dX11_taken_40 : decode cX11_taken 40 = .ok (.aload_n 0, 1) := by decide +kernel
theorem dX11_taken_41 : decode cX11_taken 41 = .ok (.getfield 26, 3) := by decide +kernel
theorem dX11_taken_44 : decode cX11_taken 44 = .ok (.iload_n 3, 1) := by decide +kernel
theorem dX11_taken_45 : decode cX11_taken 45 = .ok (.invokevirtual 137, 3) := by decide +kernel
theorem dX11_taken_48 : decode cX11_taken 48 = .ok (.ifCond .ne 6, 3) := by decide +kernel
theorem dX11_taken_51 : decode cX11_taken 51 = .ok (.bipush (-12), 2) := by decide +kernel
theorem dX11_taken_53 : decode cX11_taken 53 = .ok (.ireturn, 1) := by decide +kernel
theorem dX11_taken_54 : decode cX11_taken 54 = .ok (.aload_n 0, 1) := by decide +kernel
theorem dX11_taken_55 : decode cX11_taken 55 = .ok (.getfield 26, 3) := by decide +kernel
theorem dX11_taken_58 : decode cX11_taken 58 = .ok (.getfield 141, 3) := by decide +kernel
theorem dX11_taken_61 : decode cX11_taken 61 = .ok (.iload_n 3, 1) := by decide +kernel
theorem dX11_taken_62 : decode cX11_taken 62 = .ok (.iaload, 1) := by decide +kernel
theorem dX11_taken_63 : decode cX11_taken 63 = .ok (.istore 4, 2) := by decide +kernel
theorem dX11_taken_65 : decode cX11_taken 65 = .ok (.iload 4, 2) := by decide +kernel
theorem dX11_taken_67 : decode cX11_taken 67 = .ok (.iload_n 2, 1) := by decide +kernel
theorem dX11_taken_68 : decode cX11_taken 68 = .ok (.invokestatic 401, 3) := by decide +kernel
theorem dX11_taken_71 : decode cX11_taken 71 = .ok (.ifCond .eq 8, 3) := by decide +kernel
theorem dX11_taken_74 : decode cX11_taken 74 = .ok (.iload 4, 2) := by decide +kernel
theorem dX11_taken_76 : decode cX11_taken 76 = .ok (.goto 5, 3) := by decide +kernel
theorem dX11_taken_79 : decode cX11_taken 79 = .ok (.bipush (-12), 2) := by decide +kernel
theorem dX11_taken_81 : decode cX11_taken 81 = .ok (.ireturn, 1) := by decide +kernel
theorem dX11_names_33 : decode cX11_names 33 = .ok (.aload_n 0, 1) := by decide +kernel
theorem dX11_names_34 : decode cX11_names 34 = .ok (.getfield 98, 3) := by decide +kernel
theorem dX11_names_37 : decode cX11_names 37 = .ok (.iload_n 1, 1) := by decide +kernel
theorem dX11_names_38 : decode cX11_names 38 = .ok (.invokevirtual 385, 3) := by decide +kernel
theorem dX11_names_41 : decode cX11_names 41 = .ok (.ifCond .eq 15, 3) := by decide +kernel
theorem dX11_names_44 : decode cX11_names 44 = .ok (.aload_n 0, 1) := by decide +kernel
theorem dX11_names_45 : decode cX11_names 45 = .ok (.getfield 98, 3) := by decide +kernel
theorem dX11_names_48 : decode cX11_names 48 = .ok (.getfield 371, 3) := by decide +kernel
theorem dX11_names_51 : decode cX11_names 51 = .ok (.iload_n 1, 1) := by decide +kernel
theorem dX11_names_52 : decode cX11_names 52 = .ok (.iaload, 1) := by decide +kernel
theorem dX11_names_53 : decode cX11_names 53 = .ok (.ifCond .eq 6, 3) := by decide +kernel
theorem dX11_names_56 : decode cX11_names 56 = .ok (.bipush (-12), 2) := by decide +kernel
theorem dX11_names_58 : decode cX11_names 58 = .ok (.ireturn, 1) := by decide +kernel
theorem dX11_names_59 : decode cX11_names 59 = .ok (.aload_n 0, 1) := by decide +kernel
theorem dX11_names_60 : decode cX11_names 60 = .ok (.getfield 19, 3) := by decide +kernel
theorem dX11_names_63 : decode cX11_names 63 = .ok (.aload_n 0, 1) := by decide +kernel
theorem dX11_names_64 : decode cX11_names 64 = .ok (.getfield 98, 3) := by decide +kernel
theorem dX11_names_67 : decode cX11_names 67 = .ok (.getfield 367, 3) := by decide +kernel
theorem dX11_names_70 : decode cX11_names 70 = .ok (.iload_n 1, 1) := by decide +kernel
theorem dX11_names_71 : decode cX11_names 71 = .ok (.aaload, 1) := by decide +kernel
theorem dX11_names_72 : decode cX11_names 72 = .ok (.aload_n 0, 1) := by decide +kernel
theorem dX11_names_73 : decode cX11_names 73 = .ok (.getfield 98, 3) := by decide +kernel
theorem dX11_names_76 : decode cX11_names 76 = .ok (.getfield 405, 3) := by decide +kernel
theorem dX11_names_79 : decode cX11_names 79 = .ok (.iload_n 1, 1) := by decide +kernel
theorem dX11_names_80 : decode cX11_names 80 = .ok (.iaload, 1) := by decide +kernel
theorem dX11_names_81 : decode cX11_names 81 = .ok (.iload_n 2, 1) := by decide +kernel
theorem dX11_names_82 : decode cX11_names 82 = .ok (.iload_n 3, 1) := by decide +kernel
theorem dX11_names_83 : decode cX11_names 83 = .ok (.invokevirtual 407, 3) := by decide +kernel
theorem dX11_names_86 : decode cX11_names 86 = .ok (.ireturn, 1) := by decide +kernel
theorem dX11_isUnder_0 : decode cX11_isUnder 0 = .ok (.iload_n 0, 1) := by decide +kernel
theorem dX11_isUnder_1 : decode cX11_isUnder 1 = .ok (.istore_n 2, 1) := by decide +kernel
theorem dX11_isUnder_2 : decode cX11_isUnder 2 = .ok (.iconst 0, 1) := by decide +kernel
theorem dX11_isUnder_3 : decode cX11_isUnder 3 = .ok (.istore_n 3, 1) := by decide +kernel
theorem dX11_isUnder_4 : decode cX11_isUnder 4 = .ok (.iload_n 3, 1) := by decide +kernel
theorem dX11_isUnder_5 : decode cX11_isUnder 5 = .ok (.getstatic 420, 3) := by decide +kernel
theorem dX11_isUnder_8 : decode cX11_isUnder 8 = .ok (.arraylength, 1) := by decide +kernel
theorem dX11_isUnder_9 : decode cX11_isUnder 9 = .ok (.if_icmp .ge 34, 3) := by decide +kernel
theorem dX11_isUnder_12 : decode cX11_isUnder 12 = .ok (.iload_n 2, 1) := by decide +kernel
theorem dX11_isUnder_13 : decode cX11_isUnder 13 = .ok (.ifCond .lt 30, 3) := by decide +kernel
theorem dX11_isUnder_16 : decode cX11_isUnder 16 = .ok (.iload_n 2, 1) := by decide +kernel
theorem dX11_isUnder_17 : decode cX11_isUnder 17 = .ok (.getstatic 420, 3) := by decide +kernel
theorem dX11_isUnder_20 : decode cX11_isUnder 20 = .ok (.arraylength, 1) := by decide +kernel
theorem dX11_isUnder_21 : decode cX11_isUnder 21 = .ok (.if_icmp .ge 22, 3) := by decide +kernel
theorem dX11_isUnder_24 : decode cX11_isUnder 24 = .ok (.iload_n 2, 1) := by decide +kernel
theorem dX11_isUnder_25 : decode cX11_isUnder 25 = .ok (.iload_n 1, 1) := by decide +kernel
theorem dX11_isUnder_26 : decode cX11_isUnder 26 = .ok (.if_icmp .ne 5, 3) := by decide +kernel
theorem dX11_isUnder_29 : decode cX11_isUnder 29 = .ok (.iconst 1, 1) := by decide +kernel
theorem dX11_isUnder_30 : decode cX11_isUnder 30 = .ok (.ireturn, 1) := by decide +kernel
theorem dX11_isUnder_31 : decode cX11_isUnder 31 = .ok (.getstatic 420, 3) := by decide +kernel
theorem dX11_isUnder_34 : decode cX11_isUnder 34 = .ok (.iload_n 2, 1) := by decide +kernel
theorem dX11_isUnder_35 : decode cX11_isUnder 35 = .ok (.iaload, 1) := by decide +kernel
theorem dX11_isUnder_36 : decode cX11_isUnder 36 = .ok (.istore_n 2, 1) := by decide +kernel
theorem dX11_isUnder_37 : decode cX11_isUnder 37 = .ok (.iinc 3 1, 3) := by decide +kernel
theorem dX11_isUnder_40 : decode cX11_isUnder 40 = .ok (.goto (-36), 3) := by decide +kernel
theorem dX11_isUnder_43 : decode cX11_isUnder 43 = .ok (.iconst 0, 1) := by decide +kernel
theorem dX11_isUnder_44 : decode cX11_isUnder 44 = .ok (.ireturn, 1) := by decide +kernel
theorem dX11_strewn_0 : decode cX11_strewn 0 = .ok (.iload_n 0, 1) := by decide +kernel
theorem dX11_strewn_1 : decode cX11_strewn 1 = .ok (.ldc_w 423, 3) := by decide +kernel
theorem dX11_strewn_4 : decode cX11_strewn 4 = .ok (.imul, 1) := by decide +kernel
theorem dX11_strewn_5 : decode cX11_strewn 5 = .ok (.sipush 12345, 3) := by decide +kernel
theorem dX11_strewn_8 : decode cX11_strewn 8 = .ok (.iadd, 1) := by decide +kernel
theorem dX11_strewn_9 : decode cX11_strewn 9 = .ok (.bipush 8, 2) := by decide +kernel
theorem dX11_strewn_11 : decode cX11_strewn 11 = .ok (.iushr, 1) := by decide +kernel
theorem dX11_strewn_12 : decode cX11_strewn 12 = .ok (.sipush 1000, 3) := by decide +kernel
theorem dX11_strewn_15 : decode cX11_strewn 15 = .ok (.irem, 1) := by decide +kernel
theorem dX11_strewn_16 : decode cX11_strewn 16 = .ok (.ireturn, 1) := by decide +kernel
theorem dX11_placeBehind_0 : decode cX11_placeBehind 0 = .ok (.iload_n 0, 1) := by decide +kernel
theorem dX11_placeBehind_1 : decode cX11_placeBehind 1 = .ok (.iconst 1, 1) := by decide +kernel
theorem dX11_placeBehind_2 : decode cX11_placeBehind 2 = .ok (.iadd, 1) := by decide +kernel
theorem dX11_placeBehind_3 : decode cX11_placeBehind 3 = .ok (.sipush 1000, 3) := by decide +kernel
theorem dX11_placeBehind_6 : decode cX11_placeBehind 6 = .ok (.if_icmp .ge 9, 3) := by decide +kernel
theorem dX11_placeBehind_9 : decode cX11_placeBehind 9 = .ok (.iload_n 0, 1) := by decide +kernel
theorem dX11_placeBehind_10 : decode cX11_placeBehind 10 = .ok (.iconst 1, 1) := by decide +kernel
theorem dX11_placeBehind_11 : decode cX11_placeBehind 11 = .ok (.iadd, 1) := by decide +kernel
theorem dX11_placeBehind_12 : decode cX11_placeBehind 12 = .ok (.goto 4, 3) := by decide +kernel
theorem dX11_placeBehind_15 : decode cX11_placeBehind 15 = .ok (.iconst 0, 1) := by decide +kernel
theorem dX11_placeBehind_16 : decode cX11_placeBehind 16 = .ok (.ireturn, 1) := by decide +kernel
theorem dX12_feed_22 : decode cX12_feed 22 = .ok (.bipush (-3), 2) := by decide +kernel
theorem dX12_feed_24 : decode cX12_feed 24 = .ok (.ireturn, 1) := by decide +kernel
theorem dX12_found_0 : decode cX12_found 0 = .ok (.iconst 0, 1) := by decide +kernel
theorem dX12_found_1 : decode cX12_found 1 = .ok (.istore_n 2, 1) := by decide +kernel
end
section
theorem dX12_found_2 : decode cX12_found 2 = .ok (.iload_n 2, 1) := by decide +kernel
theorem dX12_found_3 : decode cX12_found 3 = .ok (.aload_n 0, 1) := by decide +kernel
theorem dX12_found_4 : decode cX12_found 4 = .ok (.getfield 133, 3) := by decide +kernel
theorem dX12_found_7 : decode cX12_found 7 = .ok (.if_icmp .ge 78, 3) := by decide +kernel
theorem dX12_found_10 : decode cX12_found 10 = .ok (.aload_n 0, 1) := by decide +kernel
theorem dX12_found_11 : decode cX12_found 11 = .ok (.getfield 7, 3) := by decide +kernel
theorem dX12_found_14 : decode cX12_found 14 = .ok (.iload_n 2, 1) := by decide +kernel
theorem dX12_found_15 : decode cX12_found 15 = .ok (.iaload, 1) := by decide +kernel
theorem dX12_found_16 : decode cX12_found 16 = .ok (.iload_n 1, 1) := by decide +kernel
theorem dX12_found_17 : decode cX12_found 17 = .ok (.if_icmp .ne 7, 3) := by decide +kernel
theorem dX12_found_20 : decode cX12_found 20 = .ok (.iconst 1, 1) := by decide +kernel
theorem dX12_found_21 : decode cX12_found 21 = .ok (.goto 4, 3) := by decide +kernel
theorem dX12_found_24 : decode cX12_found 24 = .ok (.iconst 0, 1) := by decide +kernel
theorem dX12_found_25 : decode cX12_found 25 = .ok (.istore_n 3, 1) := by decide +kernel
theorem dX12_found_26 : decode cX12_found 26 = .ok (.iconst 0, 1) := by decide +kernel
theorem dX12_found_27 : decode cX12_found 27 = .ok (.istore 4, 2) := by decide +kernel
theorem dX12_found_29 : decode cX12_found 29 = .ok (.iload 4, 2) := by decide +kernel
theorem dX12_found_31 : decode cX12_found 31 = .ok (.iload_n 1, 1) := by decide +kernel
theorem dX12_found_32 : decode cX12_found 32 = .ok (.if_icmp .ge 41, 3) := by decide +kernel
theorem dX12_found_35 : decode cX12_found 35 = .ok (.iload_n 3, 1) := by decide +kernel
theorem dX12_found_36 : decode cX12_found 36 = .ok (.ifCond .eq 37, 3) := by decide +kernel
theorem dX12_found_39 : decode cX12_found 39 = .ok (.aload_n 0, 1) := by decide +kernel
theorem dX12_found_40 : decode cX12_found 40 = .ok (.getfield 13, 3) := by decide +kernel
theorem dX12_found_43 : decode cX12_found 43 = .ok (.bipush 6, 2) := by decide +kernel
theorem dX12_found_45 : decode cX12_found 45 = .ok (.iload_n 2, 1) := by decide +kernel
theorem dX12_found_46 : decode cX12_found 46 = .ok (.imul, 1) := by decide +kernel
theorem dX12_found_47 : decode cX12_found 47 = .ok (.iload 4, 2) := by decide +kernel
theorem dX12_found_49 : decode cX12_found 49 = .ok (.iadd, 1) := by decide +kernel
theorem dX12_found_50 : decode cX12_found 50 = .ok (.iaload, 1) := by decide +kernel
theorem dX12_found_51 : decode cX12_found 51 = .ok (.aload_n 0, 1) := by decide +kernel
theorem dX12_found_52 : decode cX12_found 52 = .ok (.getfield 115, 3) := by decide +kernel
theorem dX12_found_55 : decode cX12_found 55 = .ok (.iload 4, 2) := by decide +kernel
theorem dX12_found_57 : decode cX12_found 57 = .ok (.iaload, 1) := by decide +kernel
theorem dX12_found_58 : decode cX12_found 58 = .ok (.if_icmp .ne 7, 3) := by decide +kernel
theorem dX12_found_61 : decode cX12_found 61 = .ok (.iconst 1, 1) := by decide +kernel
theorem dX12_found_62 : decode cX12_found 62 = .ok (.goto 4, 3) := by decide +kernel
theorem dX12_found_65 : decode cX12_found 65 = .ok (.iconst 0, 1) := by decide +kernel
theorem dX12_found_66 : decode cX12_found 66 = .ok (.istore_n 3, 1) := by decide +kernel
theorem dX12_found_67 : decode cX12_found 67 = .ok (.iinc 4 1, 3) := by decide +kernel
theorem dX12_found_70 : decode cX12_found 70 = .ok (.goto (-41), 3) := by decide +kernel
theorem dX12_found_73 : decode cX12_found 73 = .ok (.iload_n 3, 1) := by decide +kernel
theorem dX12_found_74 : decode cX12_found 74 = .ok (.ifCond .eq 5, 3) := by decide +kernel
theorem dX12_found_77 : decode cX12_found 77 = .ok (.iload_n 2, 1) := by decide +kernel
theorem dX12_found_78 : decode cX12_found 78 = .ok (.ireturn, 1) := by decide +kernel
theorem dX12_found_79 : decode cX12_found 79 = .ok (.iinc 2 1, 3) := by decide +kernel
theorem dX12_found_82 : decode cX12_found 82 = .ok (.goto (-80), 3) := by decide +kernel
theorem dX12_found_85 : decode cX12_found 85 = .ok (.iconst (-1), 1) := by decide +kernel
theorem dX12_found_86 : decode cX12_found 86 = .ok (.ireturn, 1) := by decide +kernel
theorem dX12_comesName_0 : decode cX12_comesName 0 = .ok (.aload_n 0, 1) := by decide +kernel
theorem dX12_comesName_1 : decode cX12_comesName 1 = .ok (.getfield 7, 3) := by decide +kernel
theorem dX12_comesName_4 : decode cX12_comesName 4 = .ok (.aload_n 0, 1) := by decide +kernel
theorem dX12_comesName_5 : decode cX12_comesName 5 = .ok (.getfield 133, 3) := by decide +kernel
theorem dX12_comesName_8 : decode cX12_comesName 8 = .ok (.iload_n 1, 1) := by decide +kernel
theorem dX12_comesName_9 : decode cX12_comesName 9 = .ok (.iastore, 1) := by decide +kernel
theorem dX12_comesName_10 : decode cX12_comesName 10 = .ok (.iconst 0, 1) := by decide +kernel
theorem dX12_comesName_11 : decode cX12_comesName 11 = .ok (.istore_n 2, 1) := by decide +kernel
theorem dX12_comesName_12 : decode cX12_comesName 12 = .ok (.iload_n 2, 1) := by decide +kernel
theorem dX12_comesName_13 : decode cX12_comesName 13 = .ok (.iload_n 1, 1) := by decide +kernel
theorem dX12_comesName_14 : decode cX12_comesName 14 = .ok (.if_icmp .ge 29, 3) := by decide +kernel
theorem dX12_comesName_17 : decode cX12_comesName 17 = .ok (.aload_n 0, 1) := by decide +kernel
theorem dX12_comesName_18 : decode cX12_comesName 18 = .ok (.getfield 13, 3) := by decide +kernel
theorem dX12_comesName_21 : decode cX12_comesName 21 = .ok (.bipush 6, 2) := by decide +kernel
theorem dX12_comesName_23 : decode cX12_comesName 23 = .ok (.aload_n 0, 1) := by decide +kernel
theorem dX12_comesName_24 : decode cX12_comesName 24 = .ok (.getfield 133, 3) := by decide +kernel
theorem dX12_comesName_27 : decode cX12_comesName 27 = .ok (.imul, 1) := by decide +kernel
theorem dX12_comesName_28 : decode cX12_comesName 28 = .ok (.iload_n 2, 1) := by decide +kernel
theorem dX12_comesName_29 : decode cX12_comesName 29 = .ok (.iadd, 1) := by decide +kernel
theorem dX12_comesName_30 : decode cX12_comesName 30 = .ok (.aload_n 0, 1) := by decide +kernel
theorem dX12_comesName_31 : decode cX12_comesName 31 = .ok (.getfield 115, 3) := by decide +kernel
theorem dX12_comesName_34 : decode cX12_comesName 34 = .ok (.iload_n 2, 1) := by decide +kernel
theorem dX12_comesName_35 : decode cX12_comesName 35 = .ok (.iaload, 1) := by decide +kernel
theorem dX12_comesName_36 : decode cX12_comesName 36 = .ok (.iastore, 1) := by decide +kernel
theorem dX12_comesName_37 : decode cX12_comesName 37 = .ok (.iinc 2 1, 3) := by decide +kernel
theorem dX12_comesName_40 : decode cX12_comesName 40 = .ok (.goto (-28), 3) := by decide +kernel
theorem dX12_comesName_43 : decode cX12_comesName 43 = .ok (.aload_n 0, 1) := by decide +kernel
theorem dX12_comesName_44 : decode cX12_comesName 44 = .ok (.dup, 1) := by decide +kernel
theorem dX12_comesName_45 : decode cX12_comesName 45 = .ok (.getfield 133, 3) := by decide +kernel
theorem dX12_comesName_48 : decode cX12_comesName 48 = .ok (.iconst 1, 1) := by decide +kernel
theorem dX12_comesName_49 : decode cX12_comesName 49 = .ok (.iadd, 1) := by decide +kernel
theorem dX12_comesName_50 : decode cX12_comesName 50 = .ok (.putfield 133, 3) := by decide +kernel
theorem dX12_comesName_53 : decode cX12_comesName 53 = .ok (.return_, 1) := by decide +kernel
theorem dX12_name_15 : decode cX12_name 15 = .ok (.iconst 0, 1) := by decide +kernel
theorem dX12_name_16 : decode cX12_name 16 = .ok (.istore_n 1, 1) := by decide +kernel
theorem dX12_name_17 : decode cX12_name 17 = .ok (.iload_n 1, 1) := by decide +kernel
theorem dX12_name_18 : decode cX12_name 18 = .ok (.aload_n 0, 1) := by decide +kernel
theorem dX12_name_19 : decode cX12_name 19 = .ok (.getfield 146, 3) := by decide +kernel
theorem dX12_name_22 : decode cX12_name 22 = .ok (.if_icmp .ge 21, 3) := by decide +kernel
theorem dX12_name_25 : decode cX12_name 25 = .ok (.aload_n 0, 1) := by decide +kernel
theorem dX12_name_26 : decode cX12_name 26 = .ok (.getfield 115, 3) := by decide +kernel
theorem dX12_name_29 : decode cX12_name 29 = .ok (.iload_n 1, 1) := by decide +kernel
theorem dX12_name_30 : decode cX12_name 30 = .ok (.aload_n 0, 1) := by decide +kernel
theorem dX12_name_31 : decode cX12_name 31 = .ok (.getfield 65, 3) := by decide +kernel
theorem dX12_name_34 : decode cX12_name 34 = .ok (.iload_n 1, 1) := by decide +kernel
theorem dX12_name_35 : decode cX12_name 35 = .ok (.iaload, 1) := by decide +kernel
theorem dX12_name_36 : decode cX12_name 36 = .ok (.iastore, 1) := by decide +kernel
theorem dX12_name_37 : decode cX12_name 37 = .ok (.iinc 1 1, 3) := by decide +kernel
theorem dX12_name_40 : decode cX12_name 40 = .ok (.goto (-23), 3) := by decide +kernel
theorem dX12_name_43 : decode cX12_name 43 = .ok (.aload_n 0, 1) := by decide +kernel
theorem dX12_name_44 : decode cX12_name 44 = .ok (.aload_n 0, 1) := by decide +kernel
theorem dX12_name_45 : decode cX12_name 45 = .ok (.getfield 146, 3) := by decide +kernel
theorem dX12_name_48 : decode cX12_name 48 = .ok (.invokevirtual 149, 3) := by decide +kernel
theorem dX12_name_51 : decode cX12_name 51 = .ok (.istore_n 1, 1) := by decide +kernel
theorem dX12_name_52 : decode cX12_name 52 = .ok (.iload_n 1, 1) := by decide +kernel
theorem dX12_name_53 : decode cX12_name 53 = .ok (.ifCond .ge 15, 3) := by decide +kernel
theorem dX12_name_56 : decode cX12_name 56 = .ok (.aload_n 0, 1) := by decide +kernel
theorem dX12_name_57 : decode cX12_name 57 = .ok (.getfield 133, 3) := by decide +kernel
theorem dX12_name_60 : decode cX12_name 60 = .ok (.bipush 40, 2) := by decide +kernel
theorem dX12_name_62 : decode cX12_name 62 = .ok (.if_icmp .ne 6, 3) := by decide +kernel
theorem dX12_name_65 : decode cX12_name 65 = .ok (.bipush (-3), 2) := by decide +kernel
theorem dX12_name_67 : decode cX12_name 67 = .ok (.ireturn, 1) := by decide +kernel
theorem dX12_name_68 : decode cX12_name 68 = .ok (.iload_n 1, 1) := by decide +kernel
theorem dX12_name_69 : decode cX12_name 69 = .ok (.ifCond .ge 16, 3) := by decide +kernel
theorem dX12_name_72 : decode cX12_name 72 = .ok (.aload_n 0, 1) := by decide +kernel
theorem dX12_name_73 : decode cX12_name 73 = .ok (.getfield 133, 3) := by decide +kernel
theorem dX12_name_76 : decode cX12_name 76 = .ok (.istore_n 1, 1) := by decide +kernel
theorem dX12_name_77 : decode cX12_name 77 = .ok (.aload_n 0, 1) := by decide +kernel
theorem dX12_name_78 : decode cX12_name 78 = .ok (.aload_n 0, 1) := by decide +kernel
theorem dX12_name_79 : decode cX12_name 79 = .ok (.getfield 146, 3) := by decide +kernel
theorem dX12_name_82 : decode cX12_name 82 = .ok (.invokevirtual 153, 3) := by decide +kernel
theorem dX12_name_85 : decode cX12_name 85 = .ok (.aload_n 0, 1) := by decide +kernel
theorem dX12_name_86 : decode cX12_name 86 = .ok (.iconst 0, 1) := by decide +kernel
theorem dX12_name_87 : decode cX12_name 87 = .ok (.putfield 146, 3) := by decide +kernel
theorem dX12_name_90 : decode cX12_name 90 = .ok (.iload_n 1, 1) := by decide +kernel
theorem dX12_name_91 : decode cX12_name 91 = .ok (.ireturn, 1) := by decide +kernel
theorem dX12_numberOf_0 : decode cX12_numberOf 0 = .ok (.iload_n 2, 1) := by decide +kernel
theorem dX12_numberOf_1 : decode cX12_numberOf 1 = .ok (.istore_n 3, 1) := by decide +kernel
theorem dX12_numberOf_2 : decode cX12_numberOf 2 = .ok (.iconst 0, 1) := by decide +kernel
theorem dX12_numberOf_3 : decode cX12_numberOf 3 = .ok (.istore 4, 2) := by decide +kernel
theorem dX12_numberOf_5 : decode cX12_numberOf 5 = .ok (.iload 4, 2) := by decide +kernel
theorem dX12_numberOf_7 : decode cX12_numberOf 7 = .ok (.aload_n 0, 1) := by decide +kernel
theorem dX12_numberOf_8 : decode cX12_numberOf 8 = .ok (.getfield 7, 3) := by decide +kernel
theorem dX12_numberOf_11 : decode cX12_numberOf 11 = .ok (.iload_n 1, 1) := by decide +kernel
theorem dX12_numberOf_12 : decode cX12_numberOf 12 = .ok (.iaload, 1) := by decide +kernel
theorem dX12_numberOf_13 : decode cX12_numberOf 13 = .ok (.if_icmp .ge 27, 3) := by decide +kernel
theorem dX12_numberOf_16 : decode cX12_numberOf 16 = .ok (.iload_n 3, 1) := by decide +kernel
theorem dX12_numberOf_17 : decode cX12_numberOf 17 = .ok (.aload_n 0, 1) := by decide +kernel
theorem dX12_numberOf_18 : decode cX12_numberOf 18 = .ok (.getfield 13, 3) := by decide +kernel
theorem dX12_numberOf_21 : decode cX12_numberOf 21 = .ok (.bipush 6, 2) := by decide +kernel
theorem dX12_numberOf_23 : decode cX12_numberOf 23 = .ok (.iload_n 1, 1) := by decide +kernel
theorem dX12_numberOf_24 : decode cX12_numberOf 24 = .ok (.imul, 1) := by decide +kernel
theorem dX12_numberOf_25 : decode cX12_numberOf 25 = .ok (.iload 4, 2) := by decide +kernel
theorem dX12_numberOf_27 : decode cX12_numberOf 27 = .ok (.iadd, 1) := by decide +kernel
theorem dX12_numberOf_28 : decode cX12_numberOf 28 = .ok (.iaload, 1) := by decide +kernel
theorem dX12_numberOf_29 : decode cX12_numberOf 29 = .ok (.ixor, 1) := by decide +kernel
theorem dX12_numberOf_30 : decode cX12_numberOf 30 = .ok (.ldc 157, 2) := by decide +kernel
theorem dX12_numberOf_32 : decode cX12_numberOf 32 = .ok (.imul, 1) := by decide +kernel
theorem dX12_numberOf_33 : decode cX12_numberOf 33 = .ok (.istore_n 3, 1) := by decide +kernel
theorem dX12_numberOf_34 : decode cX12_numberOf 34 = .ok (.iinc 4 1, 3) := by decide +kernel
theorem dX12_numberOf_37 : decode cX12_numberOf 37 = .ok (.goto (-32), 3) := by decide +kernel
theorem dX12_numberOf_40 : decode cX12_numberOf 40 = .ok (.iload_n 3, 1) := by decide +kernel
theorem dX12_numberOf_41 : decode cX12_numberOf 41 = .ok (.bipush 7, 2) := by decide +kernel
theorem dX12_numberOf_43 : decode cX12_numberOf 43 = .ok (.iushr, 1) := by decide +kernel
theorem dX12_numberOf_44 : decode cX12_numberOf 44 = .ok (.sipush 1000, 3) := by decide +kernel
theorem dX12_numberOf_47 : decode cX12_numberOf 47 = .ok (.irem, 1) := by decide +kernel
theorem dX12_numberOf_48 : decode cX12_numberOf 48 = .ok (.ireturn, 1) := by decide +kernel
theorem dX12_number_8 : decode cX12_number 8 = .ok (.aload_n 0, 1) := by decide +kernel
theorem dX12_number_9 : decode cX12_number 9 = .ok (.iload_n 1, 1) := by decide +kernel
theorem dX12_number_10 : decode cX12_number 10 = .ok (.iload_n 2, 1) := by decide +kernel
theorem dX12_number_11 : decode cX12_number 11 = .ok (.invokevirtual 162, 3) := by decide +kernel
theorem dX12_number_14 : decode cX12_number 14 = .ok (.goto 4, 3) := by decide +kernel
theorem dX12_keeper_30 : decode cX12_keeper 30 = .ok (.bipush (-3), 2) := by decide +kernel
theorem dX12_keeper_32 : decode cX12_keeper 32 = .ok (.ireturn, 1) := by decide +kernel
theorem dX12_countsNow_0 : decode cX12_countsNow 0 = .ok (.aload_n 0, 1) := by decide +kernel
theorem dX12_countsNow_1 : decode cX12_countsNow 1 = .ok (.getfield 22, 3) := by decide +kernel
theorem dX12_countsNow_4 : decode cX12_countsNow 4 = .ok (.iload_n 1, 1) := by decide +kernel
theorem dX12_countsNow_5 : decode cX12_countsNow 5 = .ok (.iaload, 1) := by decide +kernel
theorem dX12_countsNow_6 : decode cX12_countsNow 6 = .ok (.iconst 1, 1) := by decide +kernel
theorem dX12_countsNow_7 : decode cX12_countsNow 7 = .ok (.if_icmp .eq 14, 3) := by decide +kernel
theorem dX12_countsNow_10 : decode cX12_countsNow 10 = .ok (.aload_n 0, 1) := by decide +kernel
theorem dX12_countsNow_11 : decode cX12_countsNow 11 = .ok (.getfield 22, 3) := by decide +kernel
theorem dX12_countsNow_14 : decode cX12_countsNow 14 = .ok (.iload_n 1, 1) := by decide +kernel
theorem dX12_countsNow_15 : decode cX12_countsNow 15 = .ok (.iaload, 1) := by decide +kernel
theorem dX12_countsNow_16 : decode cX12_countsNow 16 = .ok (.bipush 6, 2) := by decide +kernel
theorem dX12_countsNow_18 : decode cX12_countsNow 18 = .ok (.if_icmp .ne 14, 3) := by decide +kernel
theorem dX12_countsNow_21 : decode cX12_countsNow 21 = .ok (.iconst 2, 1) := by decide +kernel
theorem dX12_countsNow_22 : decode cX12_countsNow 22 = .ok (.aload_n 0, 1) := by decide +kernel
theorem dX12_countsNow_23 : decode cX12_countsNow 23 = .ok (.getfield 19, 3) := by decide +kernel
theorem dX12_countsNow_26 : decode cX12_countsNow 26 = .ok (.iload_n 1, 1) := by decide +kernel
theorem dX12_countsNow_27 : decode cX12_countsNow 27 = .ok (.iaload, 1) := by decide +kernel
theorem dX12_countsNow_28 : decode cX12_countsNow 28 = .ok (.imul, 1) := by decide +kernel
theorem dX12_countsNow_29 : decode cX12_countsNow 29 = .ok (.goto 9, 3) := by decide +kernel
theorem dX12_countsNow_32 : decode cX12_countsNow 32 = .ok (.aload_n 0, 1) := by decide +kernel
theorem dX12_countsNow_33 : decode cX12_countsNow 33 = .ok (.getfield 19, 3) := by decide +kernel
theorem dX12_countsNow_36 : decode cX12_countsNow 36 = .ok (.iload_n 1, 1) := by decide +kernel
theorem dX12_countsNow_37 : decode cX12_countsNow 37 = .ok (.iaload, 1) := by decide +kernel
theorem dX12_countsNow_38 : decode cX12_countsNow 38 = .ok (.ireturn, 1) := by decide +kernel
theorem dX12_become_8 : decode cX12_become 8 = .ok (.iload_n 2, 1) := by decide +kernel
theorem dX12_become_9 : decode cX12_become 9 = .ok (.iconst 0, 1) := by decide +kernel
theorem dX12_become_10 : decode cX12_become 10 = .ok (.bipush 6, 2) := by decide +kernel
theorem dX12_become_12 : decode cX12_become 12 = .ok (.invokestatic 136, 3) := by decide +kernel
theorem dX12_become_15 : decode cX12_become 15 = .ok (.ifCond .ne 5, 3) := by decide +kernel
theorem dX12_become_20 : decode cX12_become 20 = .ok (.aload_n 0, 1) := by decide +kernel
theorem dX12_become_21 : decode cX12_become 21 = .ok (.getfield 22, 3) := by decide +kernel
theorem dX12_become_24 : decode cX12_become 24 = .ok (.iload_n 1, 1) := by decide +kernel
theorem dX12_become_25 : decode cX12_become 25 = .ok (.iaload, 1) := by decide +kernel
theorem dX12_become_26 : decode cX12_become 26 = .ok (.istore_n 3, 1) := by decide +kernel
theorem dX12_become_27 : decode cX12_become 27 = .ok (.aload_n 0, 1) := by decide +kernel
theorem dX12_become_28 : decode cX12_become 28 = .ok (.getfield 22, 3) := by decide +kernel
theorem dX12_become_31 : decode cX12_become 31 = .ok (.iload_n 1, 1) := by decide +kernel
theorem dX12_become_32 : decode cX12_become 32 = .ok (.iload_n 2, 1) := by decide +kernel
theorem dX12_become_33 : decode cX12_become 33 = .ok (.iastore, 1) := by decide +kernel
theorem dX12_become_34 : decode cX12_become 34 = .ok (.iconst 0, 1) := by decide +kernel
theorem dX12_become_35 : decode cX12_become 35 = .ok (.istore 4, 2) := by decide +kernel
theorem dX12_become_37 : decode cX12_become 37 = .ok (.iload 4, 2) := by decide +kernel
theorem dX12_become_39 : decode cX12_become 39 = .ok (.sipush 480, 3) := by decide +kernel
theorem dX12_become_42 : decode cX12_become 42 = .ok (.if_icmp .ge 100, 3) := by decide +kernel
theorem dX12_become_45 : decode cX12_become 45 = .ok (.iload_n 3, 1) := by decide +kernel
theorem dX12_become_46 : decode cX12_become 46 = .ok (.iconst 4, 1) := by decide +kernel
theorem dX12_become_47 : decode cX12_become 47 = .ok (.if_icmp .ne 95, 3) := by decide +kernel
theorem dX12_become_50 : decode cX12_become 50 = .ok (.iload_n 2, 1) := by decide +kernel
theorem dX12_become_51 : decode cX12_become 51 = .ok (.iconst 4, 1) := by decide +kernel
theorem dX12_become_52 : decode cX12_become 52 = .ok (.if_icmp .eq 90, 3) := by decide +kernel
theorem dX12_become_55 : decode cX12_become 55 = .ok (.aload_n 0, 1) := by decide +kernel
theorem dX12_become_56 : decode cX12_become 56 = .ok (.getfield 74, 3) := by decide +kernel
theorem dX12_become_59 : decode cX12_become 59 = .ok (.iload 4, 2) := by decide +kernel
theorem dX12_become_61 : decode cX12_become 61 = .ok (.iaload, 1) := by decide +kernel
theorem dX12_become_62 : decode cX12_become 62 = .ok (.iload_n 1, 1) := by decide +kernel
theorem dX12_become_63 : decode cX12_become 63 = .ok (.if_icmp .ne 73, 3) := by decide +kernel
theorem dX12_become_66 : decode cX12_become 66 = .ok (.bipush 40, 2) := by decide +kernel
theorem dX12_become_68 : decode cX12_become 68 = .ok (.iload_n 1, 1) := by decide +kernel
theorem dX12_become_69 : decode cX12_become 69 = .ok (.imul, 1) := by decide +kernel
theorem dX12_become_70 : decode cX12_become 70 = .ok (.iload 4, 2) := by decide +kernel
theorem dX12_become_72 : decode cX12_become 72 = .ok (.bipush 40, 2) := by decide +kernel
theorem dX12_become_74 : decode cX12_become 74 = .ok (.irem, 1) := by decide +kernel
theorem dX12_become_75 : decode cX12_become 75 = .ok (.iadd, 1) := by decide +kernel
theorem dX12_become_76 : decode cX12_become 76 = .ok (.istore 5, 2) := by decide +kernel
theorem dX12_become_78 : decode cX12_become 78 = .ok (.aload_n 0, 1) := by decide +kernel
theorem dX12_become_79 : decode cX12_become 79 = .ok (.getfield 68, 3) := by decide +kernel
theorem dX12_become_82 : decode cX12_become 82 = .ok (.iload 5, 2) := by decide +kernel
theorem dX12_become_84 : decode cX12_become 84 = .ok (.aload_n 0, 1) := by decide +kernel
theorem dX12_become_85 : decode cX12_become 85 = .ok (.getfield 71, 3) := by decide +kernel
theorem dX12_become_88 : decode cX12_become 88 = .ok (.iload 4, 2) := by decide +kernel
theorem dX12_become_90 : decode cX12_become 90 = .ok (.iaload, 1) := by decide +kernel
theorem dX12_become_91 : decode cX12_become 91 = .ok (.aload_n 0, 1) := by decide +kernel
theorem dX12_become_92 : decode cX12_become 92 = .ok (.getfield 68, 3) := by decide +kernel
theorem dX12_become_95 : decode cX12_become 95 = .ok (.iload 5, 2) := by decide +kernel
theorem dX12_become_97 : decode cX12_become 97 = .ok (.iaload, 1) := by decide +kernel
theorem dX12_become_98 : decode cX12_become 98 = .ok (.if_icmp .le 13, 3) := by decide +kernel
theorem dX12_become_101 : decode cX12_become 101 = .ok (.aload_n 0, 1) := by decide +kernel
theorem dX12_become_102 : decode cX12_become 102 = .ok (.getfield 71, 3) := by decide +kernel
theorem dX12_become_105 : decode cX12_become 105 = .ok (.iload 4, 2) := by decide +kernel
theorem dX12_become_107 : decode cX12_become 107 = .ok (.iaload, 1) := by decide +kernel
theorem dX12_become_108 : decode cX12_become 108 = .ok (.goto 10, 3) := by decide +kernel
theorem dX12_become_111 : decode cX12_become 111 = .ok (.aload_n 0, 1) := by decide +kernel
theorem dX12_become_112 : decode cX12_become 112 = .ok (.getfield 68, 3) := by decide +kernel
theorem dX12_become_115 : decode cX12_become 115 = .ok (.iload 5, 2) := by decide +kernel
theorem dX12_become_117 : decode cX12_become 117 = .ok (.iaload, 1) := by decide +kernel
theorem dX12_become_118 : decode cX12_become 118 = .ok (.iastore, 1) := by decide +kernel
theorem dX12_become_119 : decode cX12_become 119 = .ok (.aload_n 0, 1) := by decide +kernel
theorem dX12_become_120 : decode cX12_become 120 = .ok (.getfield 71, 3) := by decide +kernel
theorem dX12_become_123 : decode cX12_become 123 = .ok (.iload 4, 2) := by decide +kernel
theorem dX12_become_125 : decode cX12_become 125 = .ok (.iconst 0, 1) := by decide +kernel
theorem dX12_become_126 : decode cX12_become 126 = .ok (.iastore, 1) := by decide +kernel
theorem dX12_become_127 : decode cX12_become 127 = .ok (.aload_n 0, 1) := by decide +kernel
theorem dX12_become_128 : decode cX12_become 128 = .ok (.getfield 74, 3) := by decide +kernel
theorem dX12_become_131 : decode cX12_become 131 = .ok (.iload 4, 2) := by decide +kernel
theorem dX12_become_133 : decode cX12_become 133 = .ok (.bipush (-2), 2) := by decide +kernel
theorem dX12_become_135 : decode cX12_become 135 = .ok (.iastore, 1) := by decide +kernel
theorem dX12_become_136 : decode cX12_become 136 = .ok (.iinc 4 1, 3) := by decide +kernel
theorem dX12_become_139 : decode cX12_become 139 = .ok (.goto (-102), 3) := by decide +kernel
theorem dX12_become_142 : decode cX12_become 142 = .ok (.iload_n 3, 1) := by decide +kernel
theorem dX12_become_143 : decode cX12_become 143 = .ok (.ireturn, 1) := by decide +kernel
theorem dX12_strength_8 : decode cX12_strength 8 = .ok (.iload_n 2, 1) := by decide +kernel
theorem dX12_strength_9 : decode cX12_strength 9 = .ok (.iconst 1, 1) := by decide +kernel
theorem dX12_strength_10 : decode cX12_strength 10 = .ok (.bipush 8, 2) := by decide +kernel
theorem dX12_strength_12 : decode cX12_strength 12 = .ok (.invokestatic 136, 3) := by decide +kernel
theorem dX12_strength_15 : decode cX12_strength 15 = .ok (.ifCond .ne 5, 3) := by decide +kernel
theorem dX12_strength_20 : decode cX12_strength 20 = .ok (.aload_n 0, 1) := by decide +kernel
theorem dX12_strength_21 : decode cX12_strength 21 = .ok (.getfield 19, 3) := by decide +kernel
theorem dX12_strength_24 : decode cX12_strength 24 = .ok (.iload_n 1, 1) := by decide +kernel
theorem dX12_strength_25 : decode cX12_strength 25 = .ok (.iaload, 1) := by decide +kernel
theorem dX12_strength_26 : decode cX12_strength 26 = .ok (.istore_n 3, 1) := by decide +kernel
theorem dX12_strength_27 : decode cX12_strength 27 = .ok (.aload_n 0, 1) := by decide +kernel
theorem dX12_strength_28 : decode cX12_strength 28 = .ok (.getfield 19, 3) := by decide +kernel
theorem dX12_strength_31 : decode cX12_strength 31 = .ok (.iload_n 1, 1) := by decide +kernel
theorem dX12_strength_32 : decode cX12_strength 32 = .ok (.iload_n 2, 1) := by decide +kernel
theorem dX12_strength_33 : decode cX12_strength 33 = .ok (.iastore, 1) := by decide +kernel
theorem dX12_strength_34 : decode cX12_strength 34 = .ok (.iload_n 3, 1) := by decide +kernel
theorem dX12_strength_35 : decode cX12_strength 35 = .ok (.ireturn, 1) := by decide +kernel
theorem dX12_many_0 : decode cX12_many 0 = .ok (.iconst 0, 1) := by decide +kernel
theorem dX12_many_1 : decode cX12_many 1 = .ok (.istore_n 3, 1) := by decide +kernel
theorem dX12_many_2 : decode cX12_many 2 = .ok (.iconst 0, 1) := by decide +kernel
theorem dX12_many_3 : decode cX12_many 3 = .ok (.istore 4, 2) := by decide +kernel
theorem dX12_many_5 : decode cX12_many 5 = .ok (.iload 4, 2) := by decide +kernel
theorem dX12_many_7 : decode cX12_many 7 = .ok (.bipush 40, 2) := by decide +kernel
theorem dX12_many_9 : decode cX12_many 9 = .ok (.if_icmp .ge 59, 3) := by decide +kernel
theorem dX12_many_12 : decode cX12_many 12 = .ok (.iload_n 3, 1) := by decide +kernel
theorem dX12_many_13 : decode cX12_many 13 = .ok (.iload_n 2, 1) := by decide +kernel
theorem dX12_many_14 : decode cX12_many 14 = .ok (.ifCond .eq 26, 3) := by decide +kernel
theorem dX12_many_17 : decode cX12_many 17 = .ok (.aload_n 0, 1) := by decide +kernel
theorem dX12_many_18 : decode cX12_many 18 = .ok (.getfield 68, 3) := by decide +kernel
theorem dX12_many_21 : decode cX12_many 21 = .ok (.bipush 40, 2) := by decide +kernel
theorem dX12_many_23 : decode cX12_many 23 = .ok (.iload_n 1, 1) := by decide +kernel
theorem dX12_many_24 : decode cX12_many 24 = .ok (.imul, 1) := by decide +kernel
theorem dX12_many_25 : decode cX12_many 25 = .ok (.iload 4, 2) := by decide +kernel
theorem dX12_many_27 : decode cX12_many 27 = .ok (.iadd, 1) := by decide +kernel
theorem dX12_many_28 : decode cX12_many 28 = .ok (.iaload, 1) := by decide +kernel
theorem dX12_many_29 : decode cX12_many 29 = .ok (.ifCond .le 7, 3) := by decide +kernel
theorem dX12_many_32 : decode cX12_many 32 = .ok (.iconst 1, 1) := by decide +kernel
theorem dX12_many_33 : decode cX12_many 33 = .ok (.goto 27, 3) := by decide +kernel
theorem dX12_many_36 : decode cX12_many 36 = .ok (.iconst 0, 1) := by decide +kernel
theorem dX12_many_37 : decode cX12_many 37 = .ok (.goto 23, 3) := by decide +kernel
theorem dX12_many_40 : decode cX12_many 40 = .ok (.aload_n 0, 1) := by decide +kernel
theorem dX12_many_41 : decode cX12_many 41 = .ok (.getfield 71, 3) := by decide +kernel
theorem dX12_many_44 : decode cX12_many 44 = .ok (.bipush 40, 2) := by decide +kernel
theorem dX12_many_46 : decode cX12_many 46 = .ok (.iload_n 1, 1) := by decide +kernel
theorem dX12_many_47 : decode cX12_many 47 = .ok (.imul, 1) := by decide +kernel
theorem dX12_many_48 : decode cX12_many 48 = .ok (.iload 4, 2) := by decide +kernel
theorem dX12_many_50 : decode cX12_many 50 = .ok (.iadd, 1) := by decide +kernel
theorem dX12_many_51 : decode cX12_many 51 = .ok (.iaload, 1) := by decide +kernel
theorem dX12_many_52 : decode cX12_many 52 = .ok (.ifCond .le 7, 3) := by decide +kernel
theorem dX12_many_55 : decode cX12_many 55 = .ok (.iconst 1, 1) := by decide +kernel
theorem dX12_many_56 : decode cX12_many 56 = .ok (.goto 4, 3) := by decide +kernel
theorem dX12_many_59 : decode cX12_many 59 = .ok (.iconst 0, 1) := by decide +kernel
theorem dX12_many_60 : decode cX12_many 60 = .ok (.iadd, 1) := by decide +kernel
theorem dX12_many_61 : decode cX12_many 61 = .ok (.istore_n 3, 1) := by decide +kernel
theorem dX12_many_62 : decode cX12_many 62 = .ok (.iinc 4 1, 3) := by decide +kernel
theorem dX12_many_65 : decode cX12_many 65 = .ok (.goto (-60), 3) := by decide +kernel
theorem dX12_many_68 : decode cX12_many 68 = .ok (.iload_n 3, 1) := by decide +kernel
theorem dX12_many_69 : decode cX12_many 69 = .ok (.ireturn, 1) := by decide +kernel
theorem dX12_ofKeeper_11 : decode cX12_ofKeeper 11 = .ok (.iload_n 2, 1) := by decide +kernel
theorem dX12_ofKeeper_12 : decode cX12_ofKeeper 12 = .ok (.tableswitch 111 0 7 #[48, 55, 62, 69, 75, 82, 89, 96], 48) := by decide +kernel
theorem dX12_ofKeeper_60 : decode cX12_ofKeeper 60 = .ok (.aload_n 0, 1) := by decide +kernel
theorem dX12_ofKeeper_61 : decode cX12_ofKeeper 61 = .ok (.getfield 22, 3) := by decide +kernel
theorem dX12_ofKeeper_64 : decode cX12_ofKeeper 64 = .ok (.iload_n 1, 1) := by decide +kernel
theorem dX12_ofKeeper_65 : decode cX12_ofKeeper 65 = .ok (.iaload, 1) := by decide +kernel
theorem dX12_ofKeeper_66 : decode cX12_ofKeeper 66 = .ok (.ireturn, 1) := by decide +kernel
theorem dX12_ofKeeper_67 : decode cX12_ofKeeper 67 = .ok (.aload_n 0, 1) := by decide +kernel
theorem dX12_ofKeeper_68 : decode cX12_ofKeeper 68 = .ok (.getfield 16, 3) := by decide +kernel
theorem dX12_ofKeeper_71 : decode cX12_ofKeeper 71 = .ok (.iload_n 1, 1) := by decide +kernel
theorem dX12_ofKeeper_72 : decode cX12_ofKeeper 72 = .ok (.iaload, 1) := by decide +kernel
theorem dX12_ofKeeper_73 : decode cX12_ofKeeper 73 = .ok (.ireturn, 1) := by decide +kernel
theorem dX12_ofKeeper_74 : decode cX12_ofKeeper 74 = .ok (.aload_n 0, 1) := by decide +kernel
theorem dX12_ofKeeper_75 : decode cX12_ofKeeper 75 = .ok (.getfield 19, 3) := by decide +kernel
theorem dX12_ofKeeper_78 : decode cX12_ofKeeper 78 = .ok (.iload_n 1, 1) := by decide +kernel
theorem dX12_ofKeeper_79 : decode cX12_ofKeeper 79 = .ok (.iaload, 1) := by decide +kernel
theorem dX12_ofKeeper_80 : decode cX12_ofKeeper 80 = .ok (.ireturn, 1) := by decide +kernel
theorem dX12_ofKeeper_81 : decode cX12_ofKeeper 81 = .ok (.aload_n 0, 1) := by decide +kernel
theorem dX12_ofKeeper_82 : decode cX12_ofKeeper 82 = .ok (.iload_n 1, 1) := by decide +kernel
theorem dX12_ofKeeper_83 : decode cX12_ofKeeper 83 = .ok (.invokevirtual 170, 3) := by decide +kernel
theorem dX12_ofKeeper_86 : decode cX12_ofKeeper 86 = .ok (.ireturn, 1) := by decide +kernel
theorem dX12_ofKeeper_87 : decode cX12_ofKeeper 87 = .ok (.aload_n 0, 1) := by decide +kernel
theorem dX12_ofKeeper_88 : decode cX12_ofKeeper 88 = .ok (.getfield 25, 3) := by decide +kernel
theorem dX12_ofKeeper_91 : decode cX12_ofKeeper 91 = .ok (.iload_n 1, 1) := by decide +kernel
theorem dX12_ofKeeper_92 : decode cX12_ofKeeper 92 = .ok (.iaload, 1) := by decide +kernel
theorem dX12_ofKeeper_93 : decode cX12_ofKeeper 93 = .ok (.ireturn, 1) := by decide +kernel
theorem dX12_ofKeeper_94 : decode cX12_ofKeeper 94 = .ok (.aload_n 0, 1) := by decide +kernel
theorem dX12_ofKeeper_95 : decode cX12_ofKeeper 95 = .ok (.iload_n 1, 1) := by decide +kernel
theorem dX12_ofKeeper_96 : decode cX12_ofKeeper 96 = .ok (.iconst 1, 1) := by decide +kernel
theorem dX12_ofKeeper_97 : decode cX12_ofKeeper 97 = .ok (.invokevirtual 173, 3) := by decide +kernel
theorem dX12_ofKeeper_100 : decode cX12_ofKeeper 100 = .ok (.ireturn, 1) := by decide +kernel
theorem dX12_ofKeeper_101 : decode cX12_ofKeeper 101 = .ok (.aload_n 0, 1) := by decide +kernel
theorem dX12_ofKeeper_102 : decode cX12_ofKeeper 102 = .ok (.iload_n 1, 1) := by decide +kernel
theorem dX12_ofKeeper_103 : decode cX12_ofKeeper 103 = .ok (.iconst 0, 1) := by decide +kernel
theorem dX12_ofKeeper_104 : decode cX12_ofKeeper 104 = .ok (.invokevirtual 173, 3) := by decide +kernel
theorem dX12_ofKeeper_107 : decode cX12_ofKeeper 107 = .ok (.ireturn, 1) := by decide +kernel
theorem dX12_ofKeeper_108 : decode cX12_ofKeeper 108 = .ok (.aload_n 0, 1) := by decide +kernel
theorem dX12_ofKeeper_109 : decode cX12_ofKeeper 109 = .ok (.getfield 28, 3) := by decide +kernel
theorem dX12_ofKeeper_112 : decode cX12_ofKeeper 112 = .ok (.iload_n 1, 1) := by decide +kernel
theorem dX12_ofKeeper_113 : decode cX12_ofKeeper 113 = .ok (.baload, 1) := by decide +kernel
theorem dX12_ofKeeper_114 : decode cX12_ofKeeper 114 = .ok (.ifCond .eq 7, 3) := by decide +kernel
theorem dX12_ofKeeper_117 : decode cX12_ofKeeper 117 = .ok (.iconst 1, 1) := by decide +kernel
theorem dX12_ofKeeper_118 : decode cX12_ofKeeper 118 = .ok (.goto 4, 3) := by decide +kernel
theorem dX12_ofKeeper_121 : decode cX12_ofKeeper 121 = .ok (.iconst 0, 1) := by decide +kernel
theorem dX12_ofKeeper_122 : decode cX12_ofKeeper 122 = .ok (.ireturn, 1) := by decide +kernel
theorem dX12_ofKeeper_123 : decode cX12_ofKeeper 123 = .ok (.ldc 169, 2) := by decide +kernel
theorem dX12_ofKeeper_125 : decode cX12_ofKeeper 125 = .ok (.ireturn, 1) := by decide +kernel
theorem dX12_here_0 : decode cX12_here 0 = .ok (.aload_n 0, 1) := by decide +kernel
theorem dX12_here_1 : decode cX12_here 1 = .ok (.getfield 177, 3) := by decide +kernel
theorem dX12_here_4 : decode cX12_here 4 = .ok (.aload_n 0, 1) := by decide +kernel
theorem dX12_here_5 : decode cX12_here 5 = .ok (.getfield 47, 3) := by decide +kernel
theorem dX12_here_8 : decode cX12_here 8 = .ok (.aload_n 0, 1) := by decide +kernel
theorem dX12_here_9 : decode cX12_here 9 = .ok (.getfield 180, 3) := by decide +kernel
theorem dX12_here_12 : decode cX12_here 12 = .ok (.iaload, 1) := by decide +kernel
theorem dX12_here_13 : decode cX12_here 13 = .ok (.if_icmp .ge 23, 3) := by decide +kernel
theorem dX12_here_16 : decode cX12_here 16 = .ok (.aload_n 0, 1) := by decide +kernel
theorem dX12_here_17 : decode cX12_here 17 = .ok (.getfield 50, 3) := by decide +kernel
theorem dX12_here_20 : decode cX12_here 20 = .ok (.bipush 80, 2) := by decide +kernel
theorem dX12_here_22 : decode cX12_here 22 = .ok (.aload_n 0, 1) := by decide +kernel
theorem dX12_here_23 : decode cX12_here 23 = .ok (.getfield 180, 3) := by decide +kernel
theorem dX12_here_26 : decode cX12_here 26 = .ok (.imul, 1) := by decide +kernel
theorem dX12_here_27 : decode cX12_here 27 = .ok (.aload_n 0, 1) := by decide +kernel
theorem dX12_here_28 : decode cX12_here 28 = .ok (.getfield 177, 3) := by decide +kernel
theorem dX12_here_31 : decode cX12_here 31 = .ok (.iadd, 1) := by decide +kernel
theorem dX12_here_32 : decode cX12_here 32 = .ok (.iaload, 1) := by decide +kernel
theorem dX12_here_33 : decode cX12_here 33 = .ok (.goto 4, 3) := by decide +kernel
theorem dX12_here_36 : decode cX12_here 36 = .ok (.iconst (-1), 1) := by decide +kernel
theorem dX12_here_37 : decode cX12_here 37 = .ok (.ireturn, 1) := by decide +kernel
theorem dX12_eats_0 : decode cX12_eats 0 = .ok (.aload_n 0, 1) := by decide +kernel
theorem dX12_eats_1 : decode cX12_eats 1 = .ok (.getfield 183, 3) := by decide +kernel
theorem dX12_eats_4 : decode cX12_eats 4 = .ok (.ifCond .ne 24, 3) := by decide +kernel
theorem dX12_eats_7 : decode cX12_eats 7 = .ok (.aload_n 0, 1) := by decide +kernel
theorem dX12_eats_8 : decode cX12_eats 8 = .ok (.invokevirtual 187, 3) := by decide +kernel
theorem dX12_eats_11 : decode cX12_eats 11 = .ok (.iload_n 1, 1) := by decide +kernel
theorem dX12_eats_12 : decode cX12_eats 12 = .ok (.if_icmp .ne 16, 3) := by decide +kernel
theorem dX12_eats_15 : decode cX12_eats 15 = .ok (.aload_n 0, 1) := by decide +kernel
theorem dX12_eats_16 : decode cX12_eats 16 = .ok (.dup, 1) := by decide +kernel
theorem dX12_eats_17 : decode cX12_eats 17 = .ok (.getfield 177, 3) := by decide +kernel
theorem dX12_eats_20 : decode cX12_eats 20 = .ok (.iconst 1, 1) := by decide +kernel
theorem dX12_eats_21 : decode cX12_eats 21 = .ok (.iadd, 1) := by decide +kernel
theorem dX12_eats_22 : decode cX12_eats 22 = .ok (.putfield 177, 3) := by decide +kernel
theorem dX12_eats_25 : decode cX12_eats 25 = .ok (.goto 8, 3) := by decide +kernel
theorem dX12_eats_28 : decode cX12_eats 28 = .ok (.aload_n 0, 1) := by decide +kernel
theorem dX12_eats_29 : decode cX12_eats 29 = .ok (.iconst 1, 1) := by decide +kernel
theorem dX12_eats_30 : decode cX12_eats 30 = .ok (.putfield 183, 3) := by decide +kernel
theorem dX12_eats_33 : decode cX12_eats 33 = .ok (.return_, 1) := by decide +kernel
theorem dX12_sum_0 : decode cX12_sum 0 = .ok (.aload_n 0, 1) := by decide +kernel
theorem dX12_sum_1 : decode cX12_sum 1 = .ok (.invokevirtual 191, 3) := by decide +kernel
theorem dX12_sum_4 : decode cX12_sum 4 = .ok (.istore_n 1, 1) := by decide +kernel
theorem dX12_sum_5 : decode cX12_sum 5 = .ok (.aload_n 0, 1) := by decide +kernel
theorem dX12_sum_6 : decode cX12_sum 6 = .ok (.getfield 183, 3) := by decide +kernel
theorem dX12_sum_9 : decode cX12_sum 9 = .ok (.ifCond .ne 68, 3) := by decide +kernel
theorem dX12_sum_12 : decode cX12_sum 12 = .ok (.aload_n 0, 1) := by decide +kernel
theorem dX12_sum_13 : decode cX12_sum 13 = .ok (.invokevirtual 187, 3) := by decide +kernel
theorem dX12_sum_16 : decode cX12_sum 16 = .ok (.bipush 43, 2) := by decide +kernel
theorem dX12_sum_18 : decode cX12_sum 18 = .ok (.if_icmp .eq 12, 3) := by decide +kernel
theorem dX12_sum_21 : decode cX12_sum 21 = .ok (.aload_n 0, 1) := by decide +kernel
theorem dX12_sum_22 : decode cX12_sum 22 = .ok (.invokevirtual 187, 3) := by decide +kernel
theorem dX12_sum_25 : decode cX12_sum 25 = .ok (.bipush 45, 2) := by decide +kernel
theorem dX12_sum_27 : decode cX12_sum 27 = .ok (.if_icmp .ne 50, 3) := by decide +kernel
theorem dX12_sum_30 : decode cX12_sum 30 = .ok (.aload_n 0, 1) := by decide +kernel
theorem dX12_sum_31 : decode cX12_sum 31 = .ok (.invokevirtual 187, 3) := by decide +kernel
theorem dX12_sum_34 : decode cX12_sum 34 = .ok (.bipush 43, 2) := by decide +kernel
theorem dX12_sum_36 : decode cX12_sum 36 = .ok (.if_icmp .ne 7, 3) := by decide +kernel
theorem dX12_sum_39 : decode cX12_sum 39 = .ok (.iconst 1, 1) := by decide +kernel
theorem dX12_sum_40 : decode cX12_sum 40 = .ok (.goto 4, 3) := by decide +kernel
theorem dX12_sum_43 : decode cX12_sum 43 = .ok (.iconst 0, 1) := by decide +kernel
theorem dX12_sum_44 : decode cX12_sum 44 = .ok (.istore_n 2, 1) := by decide +kernel
theorem dX12_sum_45 : decode cX12_sum 45 = .ok (.aload_n 0, 1) := by decide +kernel
theorem dX12_sum_46 : decode cX12_sum 46 = .ok (.dup, 1) := by decide +kernel
theorem dX12_sum_47 : decode cX12_sum 47 = .ok (.getfield 177, 3) := by decide +kernel
theorem dX12_sum_50 : decode cX12_sum 50 = .ok (.iconst 1, 1) := by decide +kernel
theorem dX12_sum_51 : decode cX12_sum 51 = .ok (.iadd, 1) := by decide +kernel
theorem dX12_sum_52 : decode cX12_sum 52 = .ok (.putfield 177, 3) := by decide +kernel
theorem dX12_sum_55 : decode cX12_sum 55 = .ok (.aload_n 0, 1) := by decide +kernel
theorem dX12_sum_56 : decode cX12_sum 56 = .ok (.invokevirtual 191, 3) := by decide +kernel
theorem dX12_sum_59 : decode cX12_sum 59 = .ok (.istore_n 3, 1) := by decide +kernel
theorem dX12_sum_60 : decode cX12_sum 60 = .ok (.iload_n 2, 1) := by decide +kernel
theorem dX12_sum_61 : decode cX12_sum 61 = .ok (.ifCond .eq 9, 3) := by decide +kernel
theorem dX12_sum_64 : decode cX12_sum 64 = .ok (.iload_n 1, 1) := by decide +kernel
theorem dX12_sum_65 : decode cX12_sum 65 = .ok (.iload_n 3, 1) := by decide +kernel
theorem dX12_sum_66 : decode cX12_sum 66 = .ok (.iadd, 1) := by decide +kernel
theorem dX12_sum_67 : decode cX12_sum 67 = .ok (.goto 6, 3) := by decide +kernel
theorem dX12_sum_70 : decode cX12_sum 70 = .ok (.iload_n 1, 1) := by decide +kernel
theorem dX12_sum_71 : decode cX12_sum 71 = .ok (.iload_n 3, 1) := by decide +kernel
theorem dX12_sum_72 : decode cX12_sum 72 = .ok (.isub, 1) := by decide +kernel
theorem dX12_sum_73 : decode cX12_sum 73 = .ok (.istore_n 1, 1) := by decide +kernel
theorem dX12_sum_74 : decode cX12_sum 74 = .ok (.goto (-69), 3) := by decide +kernel
theorem dX12_sum_77 : decode cX12_sum 77 = .ok (.iload_n 1, 1) := by decide +kernel
theorem dX12_sum_78 : decode cX12_sum 78 = .ok (.ireturn, 1) := by decide +kernel
theorem dX12_product_0 : decode cX12_product 0 = .ok (.aload_n 0, 1) := by decide +kernel
theorem dX12_product_1 : decode cX12_product 1 = .ok (.invokevirtual 194, 3) := by decide +kernel
theorem dX12_product_4 : decode cX12_product 4 = .ok (.istore_n 1, 1) := by decide +kernel
theorem dX12_product_5 : decode cX12_product 5 = .ok (.aload_n 0, 1) := by decide +kernel
theorem dX12_product_6 : decode cX12_product 6 = .ok (.getfield 183, 3) := by decide +kernel
theorem dX12_product_9 : decode cX12_product 9 = .ok (.ifCond .ne 109, 3) := by decide +kernel
theorem dX12_product_12 : decode cX12_product 12 = .ok (.aload_n 0, 1) := by decide +kernel
theorem dX12_product_13 : decode cX12_product 13 = .ok (.invokevirtual 187, 3) := by decide +kernel
theorem dX12_product_16 : decode cX12_product 16 = .ok (.bipush 42, 2) := by decide +kernel
theorem dX12_product_18 : decode cX12_product 18 = .ok (.if_icmp .eq 21, 3) := by decide +kernel
theorem dX12_product_21 : decode cX12_product 21 = .ok (.aload_n 0, 1) := by decide +kernel
theorem dX12_product_22 : decode cX12_product 22 = .ok (.invokevirtual 187, 3) := by decide +kernel
theorem dX12_product_25 : decode cX12_product 25 = .ok (.bipush 47, 2) := by decide +kernel
theorem dX12_product_27 : decode cX12_product 27 = .ok (.if_icmp .eq 12, 3) := by decide +kernel
theorem dX12_product_30 : decode cX12_product 30 = .ok (.aload_n 0, 1) := by decide +kernel
theorem dX12_product_31 : decode cX12_product 31 = .ok (.invokevirtual 187, 3) := by decide +kernel
theorem dX12_product_34 : decode cX12_product 34 = .ok (.bipush 37, 2) := by decide +kernel
theorem dX12_product_36 : decode cX12_product 36 = .ok (.if_icmp .ne 82, 3) := by decide +kernel
theorem dX12_product_39 : decode cX12_product 39 = .ok (.aload_n 0, 1) := by decide +kernel
theorem dX12_product_40 : decode cX12_product 40 = .ok (.invokevirtual 187, 3) := by decide +kernel
theorem dX12_product_43 : decode cX12_product 43 = .ok (.istore_n 2, 1) := by decide +kernel
theorem dX12_product_44 : decode cX12_product 44 = .ok (.aload_n 0, 1) := by decide +kernel
theorem dX12_product_45 : decode cX12_product 45 = .ok (.dup, 1) := by decide +kernel
theorem dX12_product_46 : decode cX12_product 46 = .ok (.getfield 177, 3) := by decide +kernel
theorem dX12_product_49 : decode cX12_product 49 = .ok (.iconst 1, 1) := by decide +kernel
theorem dX12_product_50 : decode cX12_product 50 = .ok (.iadd, 1) := by decide +kernel
theorem dX12_product_51 : decode cX12_product 51 = .ok (.putfield 177, 3) := by decide +kernel
theorem dX12_product_54 : decode cX12_product 54 = .ok (.aload_n 0, 1) := by decide +kernel
theorem dX12_product_55 : decode cX12_product 55 = .ok (.invokevirtual 194, 3) := by decide +kernel
theorem dX12_product_58 : decode cX12_product 58 = .ok (.istore_n 3, 1) := by decide +kernel
theorem dX12_product_59 : decode cX12_product 59 = .ok (.iload_n 2, 1) := by decide +kernel
theorem dX12_product_60 : decode cX12_product 60 = .ok (.bipush 42, 2) := by decide +kernel
theorem dX12_product_62 : decode cX12_product 62 = .ok (.if_icmp .ne 9, 3) := by decide +kernel
theorem dX12_product_65 : decode cX12_product 65 = .ok (.iload_n 1, 1) := by decide +kernel
theorem dX12_product_66 : decode cX12_product 66 = .ok (.iload_n 3, 1) := by decide +kernel
theorem dX12_product_67 : decode cX12_product 67 = .ok (.imul, 1) := by decide +kernel
theorem dX12_product_68 : decode cX12_product 68 = .ok (.goto 46, 3) := by decide +kernel
theorem dX12_product_71 : decode cX12_product 71 = .ok (.iload_n 3, 1) := by decide +kernel
theorem dX12_product_72 : decode cX12_product 72 = .ok (.ifCond .ne 7, 3) := by decide +kernel
theorem dX12_product_75 : decode cX12_product 75 = .ok (.iconst 0, 1) := by decide +kernel
theorem dX12_product_76 : decode cX12_product 76 = .ok (.goto 38, 3) := by decide +kernel
theorem dX12_product_79 : decode cX12_product 79 = .ok (.iload_n 3, 1) := by decide +kernel
theorem dX12_product_80 : decode cX12_product 80 = .ok (.iconst (-1), 1) := by decide +kernel
theorem dX12_product_81 : decode cX12_product 81 = .ok (.if_icmp .ne 18, 3) := by decide +kernel
theorem dX12_product_84 : decode cX12_product 84 = .ok (.iload_n 2, 1) := by decide +kernel
theorem dX12_product_85 : decode cX12_product 85 = .ok (.bipush 47, 2) := by decide +kernel
theorem dX12_product_87 : decode cX12_product 87 = .ok (.if_icmp .ne 8, 3) := by decide +kernel
theorem dX12_product_90 : decode cX12_product 90 = .ok (.iload_n 1, 1) := by decide +kernel
theorem dX12_product_91 : decode cX12_product 91 = .ok (.ineg, 1) := by decide +kernel
theorem dX12_product_92 : decode cX12_product 92 = .ok (.goto 22, 3) := by decide +kernel
theorem dX12_product_95 : decode cX12_product 95 = .ok (.iconst 0, 1) := by decide +kernel
theorem dX12_product_96 : decode cX12_product 96 = .ok (.goto 18, 3) := by decide +kernel
theorem dX12_product_99 : decode cX12_product 99 = .ok (.iload_n 2, 1) := by decide +kernel
theorem dX12_product_100 : decode cX12_product 100 = .ok (.bipush 47, 2) := by decide +kernel
theorem dX12_product_102 : decode cX12_product 102 = .ok (.if_icmp .ne 9, 3) := by decide +kernel
theorem dX12_product_105 : decode cX12_product 105 = .ok (.iload_n 1, 1) := by decide +kernel
theorem dX12_product_106 : decode cX12_product 106 = .ok (.iload_n 3, 1) := by decide +kernel
theorem dX12_product_107 : decode cX12_product 107 = .ok (.idiv, 1) := by decide +kernel
theorem dX12_product_108 : decode cX12_product 108 = .ok (.goto 6, 3) := by decide +kernel
theorem dX12_product_111 : decode cX12_product 111 = .ok (.iload_n 1, 1) := by decide +kernel
theorem dX12_product_112 : decode cX12_product 112 = .ok (.iload_n 3, 1) := by decide +kernel
theorem dX12_product_113 : decode cX12_product 113 = .ok (.irem, 1) := by decide +kernel
theorem dX12_product_114 : decode cX12_product 114 = .ok (.istore_n 1, 1) := by decide +kernel
theorem dX12_product_115 : decode cX12_product 115 = .ok (.goto (-110), 3) := by decide +kernel
theorem dX12_product_118 : decode cX12_product 118 = .ok (.iload_n 1, 1) := by decide +kernel
theorem dX12_product_119 : decode cX12_product 119 = .ok (.ireturn, 1) := by decide +kernel
theorem dX12_one_0 : decode cX12_one 0 = .ok (.aload_n 0, 1) := by decide +kernel
theorem dX12_one_1 : decode cX12_one 1 = .ok (.invokevirtual 187, 3) := by decide +kernel
theorem dX12_one_4 : decode cX12_one 4 = .ok (.istore_n 1, 1) := by decide +kernel
theorem dX12_one_5 : decode cX12_one 5 = .ok (.aload_n 0, 1) := by decide +kernel
theorem dX12_one_6 : decode cX12_one 6 = .ok (.getfield 183, 3) := by decide +kernel
theorem dX12_one_9 : decode cX12_one 9 = .ok (.ifCond .eq 5, 3) := by decide +kernel
theorem dX12_one_12 : decode cX12_one 12 = .ok (.iconst 0, 1) := by decide +kernel
theorem dX12_one_13 : decode cX12_one 13 = .ok (.ireturn, 1) := by decide +kernel
theorem dX12_one_14 : decode cX12_one 14 = .ok (.iload_n 1, 1) := by decide +kernel
theorem dX12_one_15 : decode cX12_one 15 = .ok (.bipush 48, 2) := by decide +kernel
theorem dX12_one_17 : decode cX12_one 17 = .ok (.bipush 57, 2) := by decide +kernel
theorem dX12_one_19 : decode cX12_one 19 = .ok (.invokestatic 136, 3) := by decide +kernel
theorem dX12_one_22 : decode cX12_one 22 = .ok (.ifCond .eq 57, 3) := by decide +kernel
theorem dX12_one_25 : decode cX12_one 25 = .ok (.iconst 0, 1) := by decide +kernel
theorem dX12_one_26 : decode cX12_one 26 = .ok (.istore_n 2, 1) := by decide +kernel
theorem dX12_one_27 : decode cX12_one 27 = .ok (.iconst 0, 1) := by decide +kernel
theorem dX12_one_28 : decode cX12_one 28 = .ok (.istore_n 3, 1) := by decide +kernel
theorem dX12_one_29 : decode cX12_one 29 = .ok (.iload_n 3, 1) := by decide +kernel
theorem dX12_one_30 : decode cX12_one 30 = .ok (.iconst 3, 1) := by decide +kernel
theorem dX12_one_31 : decode cX12_one 31 = .ok (.if_icmp .ge 46, 3) := by decide +kernel
theorem dX12_one_34 : decode cX12_one 34 = .ok (.aload_n 0, 1) := by decide +kernel
theorem dX12_one_35 : decode cX12_one 35 = .ok (.invokevirtual 187, 3) := by decide +kernel
theorem dX12_one_38 : decode cX12_one 38 = .ok (.bipush 48, 2) := by decide +kernel
theorem dX12_one_40 : decode cX12_one 40 = .ok (.bipush 57, 2) := by decide +kernel
theorem dX12_one_42 : decode cX12_one 42 = .ok (.invokestatic 136, 3) := by decide +kernel
theorem dX12_one_45 : decode cX12_one 45 = .ok (.ifCond .eq 32, 3) := by decide +kernel
theorem dX12_one_48 : decode cX12_one 48 = .ok (.bipush 10, 2) := by decide +kernel
theorem dX12_one_50 : decode cX12_one 50 = .ok (.iload_n 2, 1) := by decide +kernel
theorem dX12_one_51 : decode cX12_one 51 = .ok (.imul, 1) := by decide +kernel
theorem dX12_one_52 : decode cX12_one 52 = .ok (.aload_n 0, 1) := by decide +kernel
theorem dX12_one_53 : decode cX12_one 53 = .ok (.invokevirtual 187, 3) := by decide +kernel
theorem dX12_one_56 : decode cX12_one 56 = .ok (.iadd, 1) := by decide +kernel
theorem dX12_one_57 : decode cX12_one 57 = .ok (.bipush 48, 2) := by decide +kernel
theorem dX12_one_59 : decode cX12_one 59 = .ok (.isub, 1) := by decide +kernel
theorem dX12_one_60 : decode cX12_one 60 = .ok (.istore_n 2, 1) := by decide +kernel
theorem dX12_one_61 : decode cX12_one 61 = .ok (.aload_n 0, 1) := by decide +kernel
theorem dX12_one_62 : decode cX12_one 62 = .ok (.dup, 1) := by decide +kernel
theorem dX12_one_63 : decode cX12_one 63 = .ok (.getfield 177, 3) := by decide +kernel
theorem dX12_one_66 : decode cX12_one 66 = .ok (.iconst 1, 1) := by decide +kernel
theorem dX12_one_67 : decode cX12_one 67 = .ok (.iadd, 1) := by decide +kernel
theorem dX12_one_68 : decode cX12_one 68 = .ok (.putfield 177, 3) := by decide +kernel
theorem dX12_one_71 : decode cX12_one 71 = .ok (.iinc 3 1, 3) := by decide +kernel
theorem dX12_one_74 : decode cX12_one 74 = .ok (.goto (-45), 3) := by decide +kernel
theorem dX12_one_77 : decode cX12_one 77 = .ok (.iload_n 2, 1) := by decide +kernel
theorem dX12_one_78 : decode cX12_one 78 = .ok (.ireturn, 1) := by decide +kernel
theorem dX12_one_79 : decode cX12_one 79 = .ok (.iload_n 1, 1) := by decide +kernel
theorem dX12_one_80 : decode cX12_one 80 = .ok (.bipush 40, 2) := by decide +kernel
theorem dX12_one_82 : decode cX12_one 82 = .ok (.if_icmp .ne 54, 3) := by decide +kernel
theorem dX12_one_85 : decode cX12_one 85 = .ok (.aload_n 0, 1) := by decide +kernel
theorem dX12_one_86 : decode cX12_one 86 = .ok (.getfield 197, 3) := by decide +kernel
theorem dX12_one_89 : decode cX12_one 89 = .ok (.iconst 4, 1) := by decide +kernel
theorem dX12_one_90 : decode cX12_one 90 = .ok (.if_icmp .ge 46, 3) := by decide +kernel
theorem dX12_one_93 : decode cX12_one 93 = .ok (.aload_n 0, 1) := by decide +kernel
theorem dX12_one_94 : decode cX12_one 94 = .ok (.dup, 1) := by decide +kernel
theorem dX12_one_95 : decode cX12_one 95 = .ok (.getfield 197, 3) := by decide +kernel
theorem dX12_one_98 : decode cX12_one 98 = .ok (.iconst 1, 1) := by decide +kernel
theorem dX12_one_99 : decode cX12_one 99 = .ok (.iadd, 1) := by decide +kernel
theorem dX12_one_100 : decode cX12_one 100 = .ok (.putfield 197, 3) := by decide +kernel
theorem dX12_one_103 : decode cX12_one 103 = .ok (.aload_n 0, 1) := by decide +kernel
theorem dX12_one_104 : decode cX12_one 104 = .ok (.dup, 1) := by decide +kernel
theorem dX12_one_105 : decode cX12_one 105 = .ok (.getfield 177, 3) := by decide +kernel
theorem dX12_one_108 : decode cX12_one 108 = .ok (.iconst 1, 1) := by decide +kernel
theorem dX12_one_109 : decode cX12_one 109 = .ok (.iadd, 1) := by decide +kernel
theorem dX12_one_110 : decode cX12_one 110 = .ok (.putfield 177, 3) := by decide +kernel
theorem dX12_one_113 : decode cX12_one 113 = .ok (.aload_n 0, 1) := by decide +kernel
theorem dX12_one_114 : decode cX12_one 114 = .ok (.invokevirtual 200, 3) := by decide +kernel
theorem dX12_one_117 : decode cX12_one 117 = .ok (.istore_n 2, 1) := by decide +kernel
theorem dX12_one_118 : decode cX12_one 118 = .ok (.aload_n 0, 1) := by decide +kernel
theorem dX12_one_119 : decode cX12_one 119 = .ok (.bipush 41, 2) := by decide +kernel
theorem dX12_one_121 : decode cX12_one 121 = .ok (.invokevirtual 203, 3) := by decide +kernel
theorem dX12_one_124 : decode cX12_one 124 = .ok (.aload_n 0, 1) := by decide +kernel
theorem dX12_one_125 : decode cX12_one 125 = .ok (.dup, 1) := by decide +kernel
theorem dX12_one_126 : decode cX12_one 126 = .ok (.getfield 197, 3) := by decide +kernel
theorem dX12_one_129 : decode cX12_one 129 = .ok (.iconst 1, 1) := by decide +kernel
theorem dX12_one_130 : decode cX12_one 130 = .ok (.isub, 1) := by decide +kernel
theorem dX12_one_131 : decode cX12_one 131 = .ok (.putfield 197, 3) := by decide +kernel
theorem dX12_one_134 : decode cX12_one 134 = .ok (.iload_n 2, 1) := by decide +kernel
theorem dX12_one_135 : decode cX12_one 135 = .ok (.ireturn, 1) := by decide +kernel
theorem dX12_one_136 : decode cX12_one 136 = .ok (.iload_n 1, 1) := by decide +kernel
theorem dX12_one_137 : decode cX12_one 137 = .ok (.bipush 110, 2) := by decide +kernel
theorem dX12_one_139 : decode cX12_one 139 = .ok (.if_icmp .eq 21, 3) := by decide +kernel
theorem dX12_one_142 : decode cX12_one 142 = .ok (.iload_n 1, 1) := by decide +kernel
theorem dX12_one_143 : decode cX12_one 143 = .ok (.bipush 117, 2) := by decide +kernel
theorem dX12_one_145 : decode cX12_one 145 = .ok (.if_icmp .eq 15, 3) := by decide +kernel
theorem dX12_one_148 : decode cX12_one 148 = .ok (.iload_n 1, 1) := by decide +kernel
theorem dX12_one_149 : decode cX12_one 149 = .ok (.bipush 116, 2) := by decide +kernel
theorem dX12_one_151 : decode cX12_one 151 = .ok (.if_icmp .eq 9, 3) := by decide +kernel
theorem dX12_one_154 : decode cX12_one 154 = .ok (.iload_n 1, 1) := by decide +kernel
theorem dX12_one_155 : decode cX12_one 155 = .ok (.bipush 120, 2) := by decide +kernel
theorem dX12_one_157 : decode cX12_one 157 = .ok (.if_icmp .ne 57, 3) := by decide +kernel
theorem dX12_one_160 : decode cX12_one 160 = .ok (.aload_n 0, 1) := by decide +kernel
theorem dX12_one_161 : decode cX12_one 161 = .ok (.dup, 1) := by decide +kernel
theorem dX12_one_162 : decode cX12_one 162 = .ok (.getfield 177, 3) := by decide +kernel
theorem dX12_one_165 : decode cX12_one 165 = .ok (.iconst 1, 1) := by decide +kernel
theorem dX12_one_166 : decode cX12_one 166 = .ok (.iadd, 1) := by decide +kernel
theorem dX12_one_167 : decode cX12_one 167 = .ok (.putfield 177, 3) := by decide +kernel
theorem dX12_one_170 : decode cX12_one 170 = .ok (.iload_n 1, 1) := by decide +kernel
theorem dX12_one_171 : decode cX12_one 171 = .ok (.bipush 110, 2) := by decide +kernel
theorem dX12_one_173 : decode cX12_one 173 = .ok (.if_icmp .ne 10, 3) := by decide +kernel
theorem dX12_one_176 : decode cX12_one 176 = .ok (.aload_n 0, 1) := by decide +kernel
theorem dX12_one_177 : decode cX12_one 177 = .ok (.getfield 206, 3) := by decide +kernel
theorem dX12_one_180 : decode cX12_one 180 = .ok (.goto 33, 3) := by decide +kernel
theorem dX12_one_183 : decode cX12_one 183 = .ok (.iload_n 1, 1) := by decide +kernel
theorem dX12_one_184 : decode cX12_one 184 = .ok (.bipush 117, 2) := by decide +kernel
theorem dX12_one_186 : decode cX12_one 186 = .ok (.if_icmp .ne 10, 3) := by decide +kernel
theorem dX12_one_189 : decode cX12_one 189 = .ok (.aload_n 0, 1) := by decide +kernel
theorem dX12_one_190 : decode cX12_one 190 = .ok (.getfield 209, 3) := by decide +kernel
theorem dX12_one_193 : decode cX12_one 193 = .ok (.goto 20, 3) := by decide +kernel
theorem dX12_one_196 : decode cX12_one 196 = .ok (.iload_n 1, 1) := by decide +kernel
theorem dX12_one_197 : decode cX12_one 197 = .ok (.bipush 116, 2) := by decide +kernel
theorem dX12_one_199 : decode cX12_one 199 = .ok (.if_icmp .ne 10, 3) := by decide +kernel
theorem dX12_one_202 : decode cX12_one 202 = .ok (.aload_n 0, 1) := by decide +kernel
theorem dX12_one_203 : decode cX12_one 203 = .ok (.getfield 212, 3) := by decide +kernel
theorem dX12_one_206 : decode cX12_one 206 = .ok (.goto 7, 3) := by decide +kernel
theorem dX12_one_209 : decode cX12_one 209 = .ok (.aload_n 0, 1) := by decide +kernel
theorem dX12_one_210 : decode cX12_one 210 = .ok (.getfield 215, 3) := by decide +kernel
theorem dX12_one_213 : decode cX12_one 213 = .ok (.ireturn, 1) := by decide +kernel
theorem dX12_one_214 : decode cX12_one 214 = .ok (.aload_n 0, 1) := by decide +kernel
theorem dX12_one_215 : decode cX12_one 215 = .ok (.iconst 1, 1) := by decide +kernel
theorem dX12_one_216 : decode cX12_one 216 = .ok (.putfield 183, 3) := by decide +kernel
theorem dX12_one_219 : decode cX12_one 219 = .ok (.iconst 0, 1) := by decide +kernel
theorem dX12_one_220 : decode cX12_one 220 = .ok (.ireturn, 1) := by decide +kernel
theorem dX12_held_0 : decode cX12_held 0 = .ok (.iload_n 0, 1) := by decide +kernel
theorem dX12_held_1 : decode cX12_held 1 = .ok (.iconst 1, 1) := by decide +kernel
theorem dX12_held_2 : decode cX12_held 2 = .ok (.if_icmp .ge 7, 3) := by decide +kernel
theorem dX12_held_5 : decode cX12_held 5 = .ok (.iconst 1, 1) := by decide +kernel
theorem dX12_held_6 : decode cX12_held 6 = .ok (.goto 13, 3) := by decide +kernel
theorem dX12_held_9 : decode cX12_held 9 = .ok (.iload_n 0, 1) := by decide +kernel
theorem dX12_held_10 : decode cX12_held 10 = .ok (.iconst 4, 1) := by decide +kernel
theorem dX12_held_11 : decode cX12_held 11 = .ok (.if_icmp .le 7, 3) := by decide +kernel
theorem dX12_held_14 : decode cX12_held 14 = .ok (.iconst 4, 1) := by decide +kernel
theorem dX12_held_15 : decode cX12_held 15 = .ok (.goto 4, 3) := by decide +kernel
theorem dX12_held_18 : decode cX12_held 18 = .ok (.iload_n 0, 1) := by decide +kernel
theorem dX12_held_19 : decode cX12_held 19 = .ok (.ireturn, 1) := by decide +kernel
theorem dX12_reads_0 : decode cX12_reads 0 = .ok (.aload_n 0, 1) := by decide +kernel
theorem dX12_reads_1 : decode cX12_reads 1 = .ok (.iload_n 1, 1) := by decide +kernel
theorem dX12_reads_2 : decode cX12_reads 2 = .ok (.putfield 180, 3) := by decide +kernel
theorem dX12_reads_5 : decode cX12_reads 5 = .ok (.aload_n 0, 1) := by decide +kernel
theorem dX12_reads_6 : decode cX12_reads 6 = .ok (.iconst 0, 1) := by decide +kernel
theorem dX12_reads_7 : decode cX12_reads 7 = .ok (.putfield 177, 3) := by decide +kernel
theorem dX12_reads_10 : decode cX12_reads 10 = .ok (.aload_n 0, 1) := by decide +kernel
theorem dX12_reads_11 : decode cX12_reads 11 = .ok (.iconst 0, 1) := by decide +kernel
theorem dX12_reads_12 : decode cX12_reads 12 = .ok (.putfield 197, 3) := by decide +kernel
theorem dX12_reads_15 : decode cX12_reads 15 = .ok (.aload_n 0, 1) := by decide +kernel
theorem dX12_reads_16 : decode cX12_reads 16 = .ok (.iconst 0, 1) := by decide +kernel
theorem dX12_reads_17 : decode cX12_reads 17 = .ok (.putfield 183, 3) := by decide +kernel
theorem dX12_reads_20 : decode cX12_reads 20 = .ok (.aload_n 0, 1) := by decide +kernel
theorem dX12_reads_21 : decode cX12_reads 21 = .ok (.getfield 38, 3) := by decide +kernel
theorem dX12_reads_24 : decode cX12_reads 24 = .ok (.iload_n 1, 1) := by decide +kernel
theorem dX12_reads_25 : decode cX12_reads 25 = .ok (.iconst 2, 1) := by decide +kernel
theorem dX12_reads_26 : decode cX12_reads 26 = .ok (.iastore, 1) := by decide +kernel
theorem dX12_reads_27 : decode cX12_reads 27 = .ok (.aload_n 0, 1) := by decide +kernel
theorem dX12_reads_28 : decode cX12_reads 28 = .ok (.getfield 41, 3) := by decide +kernel
theorem dX12_reads_31 : decode cX12_reads 31 = .ok (.iload_n 1, 1) := by decide +kernel
theorem dX12_reads_32 : decode cX12_reads 32 = .ok (.iconst 1, 1) := by decide +kernel
theorem dX12_reads_33 : decode cX12_reads 33 = .ok (.iastore, 1) := by decide +kernel
theorem dX12_reads_34 : decode cX12_reads 34 = .ok (.aload_n 0, 1) := by decide +kernel
theorem dX12_reads_35 : decode cX12_reads 35 = .ok (.getfield 44, 3) := by decide +kernel
theorem dX12_reads_38 : decode cX12_reads 38 = .ok (.iload_n 1, 1) := by decide +kernel
theorem dX12_reads_39 : decode cX12_reads 39 = .ok (.iconst 0, 1) := by decide +kernel
theorem dX12_reads_40 : decode cX12_reads 40 = .ok (.iastore, 1) := by decide +kernel
theorem dX12_reads_41 : decode cX12_reads 41 = .ok (.iconst 0, 1) := by decide +kernel
theorem dX12_reads_42 : decode cX12_reads 42 = .ok (.istore_n 2, 1) := by decide +kernel
theorem dX12_reads_43 : decode cX12_reads 43 = .ok (.iconst 1, 1) := by decide +kernel
theorem dX12_reads_44 : decode cX12_reads 44 = .ok (.istore_n 3, 1) := by decide +kernel
theorem dX12_reads_45 : decode cX12_reads 45 = .ok (.iload_n 3, 1) := by decide +kernel
theorem dX12_reads_46 : decode cX12_reads 46 = .ok (.ifCond .eq 272, 3) := by decide +kernel
theorem dX12_reads_49 : decode cX12_reads 49 = .ok (.aload_n 0, 1) := by decide +kernel
theorem dX12_reads_50 : decode cX12_reads 50 = .ok (.invokevirtual 187, 3) := by decide +kernel
theorem dX12_reads_53 : decode cX12_reads 53 = .ok (.istore 4, 2) := by decide +kernel
theorem dX12_reads_55 : decode cX12_reads 55 = .ok (.iload 4, 2) := by decide +kernel
theorem dX12_reads_57 : decode cX12_reads 57 = .ok (.bipush 99, 2) := by decide +kernel
theorem dX12_reads_59 : decode cX12_reads 59 = .ok (.if_icmp .ne 7, 3) := by decide +kernel
theorem dX12_reads_62 : decode cX12_reads 62 = .ok (.iconst 1, 1) := by decide +kernel
theorem dX12_reads_63 : decode cX12_reads 63 = .ok (.goto 26, 3) := by decide +kernel
theorem dX12_reads_66 : decode cX12_reads 66 = .ok (.iload 4, 2) := by decide +kernel
theorem dX12_reads_68 : decode cX12_reads 68 = .ok (.bipush 115, 2) := by decide +kernel
theorem dX12_reads_70 : decode cX12_reads 70 = .ok (.if_icmp .ne 7, 3) := by decide +kernel
theorem dX12_reads_73 : decode cX12_reads 73 = .ok (.iconst 2, 1) := by decide +kernel
theorem dX12_reads_74 : decode cX12_reads 74 = .ok (.goto 15, 3) := by decide +kernel
theorem dX12_reads_77 : decode cX12_reads 77 = .ok (.iload 4, 2) := by decide +kernel
theorem dX12_reads_79 : decode cX12_reads 79 = .ok (.bipush 112, 2) := by decide +kernel
theorem dX12_reads_81 : decode cX12_reads 81 = .ok (.if_icmp .ne 7, 3) := by decide +kernel
theorem dX12_reads_84 : decode cX12_reads 84 = .ok (.iconst 4, 1) := by decide +kernel
theorem dX12_reads_85 : decode cX12_reads 85 = .ok (.goto 4, 3) := by decide +kernel
theorem dX12_reads_88 : decode cX12_reads 88 = .ok (.iconst 0, 1) := by decide +kernel
theorem dX12_reads_89 : decode cX12_reads 89 = .ok (.istore 5, 2) := by decide +kernel
theorem dX12_reads_91 : decode cX12_reads 91 = .ok (.aload_n 0, 1) := by decide +kernel
theorem dX12_reads_92 : decode cX12_reads 92 = .ok (.iload 5, 2) := by decide +kernel
theorem dX12_reads_94 : decode cX12_reads 94 = .ok (.ifCond .eq 10, 3) := by decide +kernel
theorem dX12_reads_97 : decode cX12_reads 97 = .ok (.iload_n 2, 1) := by decide +kernel
theorem dX12_reads_98 : decode cX12_reads 98 = .ok (.iload 5, 2) := by decide +kernel
theorem dX12_reads_100 : decode cX12_reads 100 = .ok (.iand, 1) := by decide +kernel
theorem dX12_reads_101 : decode cX12_reads 101 = .ok (.ifCond .eq 7, 3) := by decide +kernel
theorem dX12_reads_104 : decode cX12_reads 104 = .ok (.iconst 1, 1) := by decide +kernel
theorem dX12_reads_105 : decode cX12_reads 105 = .ok (.goto 4, 3) := by decide +kernel
theorem dX12_reads_108 : decode cX12_reads 108 = .ok (.iconst 0, 1) := by decide +kernel
theorem dX12_reads_109 : decode cX12_reads 109 = .ok (.putfield 183, 3) := by decide +kernel
theorem dX12_reads_112 : decode cX12_reads 112 = .ok (.iload_n 2, 1) := by decide +kernel
theorem dX12_reads_113 : decode cX12_reads 113 = .ok (.iload 5, 2) := by decide +kernel
theorem dX12_reads_115 : decode cX12_reads 115 = .ok (.ior, 1) := by decide +kernel
theorem dX12_reads_116 : decode cX12_reads 116 = .ok (.istore_n 2, 1) := by decide +kernel
theorem dX12_reads_117 : decode cX12_reads 117 = .ok (.aload_n 0, 1) := by decide +kernel
theorem dX12_reads_118 : decode cX12_reads 118 = .ok (.iload 4, 2) := by decide +kernel
theorem dX12_reads_120 : decode cX12_reads 120 = .ok (.invokevirtual 203, 3) := by decide +kernel
theorem dX12_reads_123 : decode cX12_reads 123 = .ok (.aload_n 0, 1) := by decide +kernel
theorem dX12_reads_124 : decode cX12_reads 124 = .ok (.bipush 32, 2) := by decide +kernel
theorem dX12_reads_126 : decode cX12_reads 126 = .ok (.invokevirtual 203, 3) := by decide +kernel
theorem dX12_reads_129 : decode cX12_reads 129 = .ok (.iload 5, 2) := by decide +kernel
theorem dX12_reads_131 : decode cX12_reads 131 = .ok (.iconst 4, 1) := by decide +kernel
theorem dX12_reads_132 : decode cX12_reads 132 = .ok (.if_icmp .ne 81, 3) := by decide +kernel
theorem dX12_reads_135 : decode cX12_reads 135 = .ok (.aload_n 0, 1) := by decide +kernel
theorem dX12_reads_136 : decode cX12_reads 136 = .ok (.aload_n 0, 1) := by decide +kernel
theorem dX12_reads_137 : decode cX12_reads 137 = .ok (.getfield 183, 3) := by decide +kernel
theorem dX12_reads_140 : decode cX12_reads 140 = .ok (.ifCond .ne 17, 3) := by decide +kernel
theorem dX12_reads_143 : decode cX12_reads 143 = .ok (.aload_n 0, 1) := by decide +kernel
theorem dX12_reads_144 : decode cX12_reads 144 = .ok (.invokevirtual 187, 3) := by decide +kernel
theorem dX12_reads_147 : decode cX12_reads 147 = .ok (.bipush 48, 2) := by decide +kernel
theorem dX12_reads_149 : decode cX12_reads 149 = .ok (.bipush 50, 2) := by decide +kernel
theorem dX12_reads_151 : decode cX12_reads 151 = .ok (.invokestatic 136, 3) := by decide +kernel
theorem dX12_reads_154 : decode cX12_reads 154 = .ok (.ifCond .ne 7, 3) := by decide +kernel
theorem dX12_reads_157 : decode cX12_reads 157 = .ok (.iconst 1, 1) := by decide +kernel
theorem dX12_reads_158 : decode cX12_reads 158 = .ok (.goto 4, 3) := by decide +kernel
theorem dX12_reads_161 : decode cX12_reads 161 = .ok (.iconst 0, 1) := by decide +kernel
theorem dX12_reads_162 : decode cX12_reads 162 = .ok (.putfield 183, 3) := by decide +kernel
theorem dX12_reads_165 : decode cX12_reads 165 = .ok (.aload_n 0, 1) := by decide +kernel
theorem dX12_reads_166 : decode cX12_reads 166 = .ok (.getfield 44, 3) := by decide +kernel
theorem dX12_reads_169 : decode cX12_reads 169 = .ok (.iload_n 1, 1) := by decide +kernel
theorem dX12_reads_170 : decode cX12_reads 170 = .ok (.aload_n 0, 1) := by decide +kernel
theorem dX12_reads_171 : decode cX12_reads 171 = .ok (.getfield 183, 3) := by decide +kernel
theorem dX12_reads_174 : decode cX12_reads 174 = .ok (.ifCond .eq 7, 3) := by decide +kernel
theorem dX12_reads_177 : decode cX12_reads 177 = .ok (.iconst 0, 1) := by decide +kernel
theorem dX12_reads_178 : decode cX12_reads 178 = .ok (.goto 10, 3) := by decide +kernel
theorem dX12_reads_181 : decode cX12_reads 181 = .ok (.aload_n 0, 1) := by decide +kernel
theorem dX12_reads_182 : decode cX12_reads 182 = .ok (.invokevirtual 187, 3) := by decide +kernel
theorem dX12_reads_185 : decode cX12_reads 185 = .ok (.bipush 48, 2) := by decide +kernel
theorem dX12_reads_187 : decode cX12_reads 187 = .ok (.isub, 1) := by decide +kernel
theorem dX12_reads_188 : decode cX12_reads 188 = .ok (.iastore, 1) := by decide +kernel
theorem dX12_reads_189 : decode cX12_reads 189 = .ok (.aload_n 0, 1) := by decide +kernel
theorem dX12_reads_190 : decode cX12_reads 190 = .ok (.dup, 1) := by decide +kernel
theorem dX12_reads_191 : decode cX12_reads 191 = .ok (.getfield 177, 3) := by decide +kernel
theorem dX12_reads_194 : decode cX12_reads 194 = .ok (.aload_n 0, 1) := by decide +kernel
theorem dX12_reads_195 : decode cX12_reads 195 = .ok (.getfield 183, 3) := by decide +kernel
theorem dX12_reads_198 : decode cX12_reads 198 = .ok (.ifCond .eq 7, 3) := by decide +kernel
theorem dX12_reads_201 : decode cX12_reads 201 = .ok (.iconst 0, 1) := by decide +kernel
theorem dX12_reads_202 : decode cX12_reads 202 = .ok (.goto 4, 3) := by decide +kernel
theorem dX12_reads_205 : decode cX12_reads 205 = .ok (.iconst 1, 1) := by decide +kernel
theorem dX12_reads_206 : decode cX12_reads 206 = .ok (.iadd, 1) := by decide +kernel
theorem dX12_reads_207 : decode cX12_reads 207 = .ok (.putfield 177, 3) := by decide +kernel
theorem dX12_reads_210 : decode cX12_reads 210 = .ok (.goto 65, 3) := by decide +kernel
theorem dX12_reads_213 : decode cX12_reads 213 = .ok (.aload_n 0, 1) := by decide +kernel
theorem dX12_reads_214 : decode cX12_reads 214 = .ok (.getfield 183, 3) := by decide +kernel
theorem dX12_reads_217 : decode cX12_reads 217 = .ok (.ifCond .ne 58, 3) := by decide +kernel
theorem dX12_reads_220 : decode cX12_reads 220 = .ok (.aload_n 0, 1) := by decide +kernel
theorem dX12_reads_221 : decode cX12_reads 221 = .ok (.invokevirtual 200, 3) := by decide +kernel
theorem dX12_reads_224 : decode cX12_reads 224 = .ok (.invokestatic 218, 3) := by decide +kernel
theorem dX12_reads_227 : decode cX12_reads 227 = .ok (.istore 6, 2) := by decide +kernel
theorem dX12_reads_229 : decode cX12_reads 229 = .ok (.aload_n 0, 1) := by decide +kernel
theorem dX12_reads_230 : decode cX12_reads 230 = .ok (.getfield 38, 3) := by decide +kernel
theorem dX12_reads_233 : decode cX12_reads 233 = .ok (.iload_n 1, 1) := by decide +kernel
theorem dX12_reads_234 : decode cX12_reads 234 = .ok (.iload 5, 2) := by decide +kernel
theorem dX12_reads_236 : decode cX12_reads 236 = .ok (.iconst 1, 1) := by decide +kernel
theorem dX12_reads_237 : decode cX12_reads 237 = .ok (.if_icmp .ne 8, 3) := by decide +kernel
theorem dX12_reads_240 : decode cX12_reads 240 = .ok (.iload 6, 2) := by decide +kernel
theorem dX12_reads_242 : decode cX12_reads 242 = .ok (.goto 9, 3) := by decide +kernel
theorem dX12_reads_245 : decode cX12_reads 245 = .ok (.aload_n 0, 1) := by decide +kernel
theorem dX12_reads_246 : decode cX12_reads 246 = .ok (.getfield 38, 3) := by decide +kernel
theorem dX12_reads_249 : decode cX12_reads 249 = .ok (.iload_n 1, 1) := by decide +kernel
theorem dX12_reads_250 : decode cX12_reads 250 = .ok (.iaload, 1) := by decide +kernel
theorem dX12_reads_251 : decode cX12_reads 251 = .ok (.iastore, 1) := by decide +kernel
theorem dX12_reads_252 : decode cX12_reads 252 = .ok (.aload_n 0, 1) := by decide +kernel
theorem dX12_reads_253 : decode cX12_reads 253 = .ok (.getfield 41, 3) := by decide +kernel
theorem dX12_reads_256 : decode cX12_reads 256 = .ok (.iload_n 1, 1) := by decide +kernel
theorem dX12_reads_257 : decode cX12_reads 257 = .ok (.iload 5, 2) := by decide +kernel
theorem dX12_reads_259 : decode cX12_reads 259 = .ok (.iconst 2, 1) := by decide +kernel
theorem dX12_reads_260 : decode cX12_reads 260 = .ok (.if_icmp .ne 8, 3) := by decide +kernel
theorem dX12_reads_263 : decode cX12_reads 263 = .ok (.iload 6, 2) := by decide +kernel
theorem dX12_reads_265 : decode cX12_reads 265 = .ok (.goto 9, 3) := by decide +kernel
theorem dX12_reads_268 : decode cX12_reads 268 = .ok (.aload_n 0, 1) := by decide +kernel
theorem dX12_reads_269 : decode cX12_reads 269 = .ok (.getfield 41, 3) := by decide +kernel
theorem dX12_reads_272 : decode cX12_reads 272 = .ok (.iload_n 1, 1) := by decide +kernel
theorem dX12_reads_273 : decode cX12_reads 273 = .ok (.iaload, 1) := by decide +kernel
theorem dX12_reads_274 : decode cX12_reads 274 = .ok (.iastore, 1) := by decide +kernel
theorem dX12_reads_275 : decode cX12_reads 275 = .ok (.aload_n 0, 1) := by decide +kernel
theorem dX12_reads_276 : decode cX12_reads 276 = .ok (.getfield 183, 3) := by decide +kernel
theorem dX12_reads_279 : decode cX12_reads 279 = .ok (.ifCond .ne 16, 3) := by decide +kernel
theorem dX12_reads_282 : decode cX12_reads 282 = .ok (.aload_n 0, 1) := by decide +kernel
theorem dX12_reads_283 : decode cX12_reads 283 = .ok (.invokevirtual 187, 3) := by decide +kernel
theorem dX12_reads_286 : decode cX12_reads 286 = .ok (.bipush 59, 2) := by decide +kernel
theorem dX12_reads_288 : decode cX12_reads 288 = .ok (.if_icmp .ne 7, 3) := by decide +kernel
theorem dX12_reads_291 : decode cX12_reads 291 = .ok (.iconst 1, 1) := by decide +kernel
theorem dX12_reads_292 : decode cX12_reads 292 = .ok (.goto 4, 3) := by decide +kernel
theorem dX12_reads_295 : decode cX12_reads 295 = .ok (.iconst 0, 1) := by decide +kernel
theorem dX12_reads_296 : decode cX12_reads 296 = .ok (.istore_n 3, 1) := by decide +kernel
theorem dX12_reads_297 : decode cX12_reads 297 = .ok (.aload_n 0, 1) := by decide +kernel
theorem dX12_reads_298 : decode cX12_reads 298 = .ok (.dup, 1) := by decide +kernel
theorem dX12_reads_299 : decode cX12_reads 299 = .ok (.getfield 177, 3) := by decide +kernel
theorem dX12_reads_302 : decode cX12_reads 302 = .ok (.iload_n 3, 1) := by decide +kernel
theorem dX12_reads_303 : decode cX12_reads 303 = .ok (.ifCond .eq 7, 3) := by decide +kernel
theorem dX12_reads_306 : decode cX12_reads 306 = .ok (.iconst 1, 1) := by decide +kernel
theorem dX12_reads_307 : decode cX12_reads 307 = .ok (.goto 4, 3) := by decide +kernel
theorem dX12_reads_310 : decode cX12_reads 310 = .ok (.iconst 0, 1) := by decide +kernel
theorem dX12_reads_311 : decode cX12_reads 311 = .ok (.iadd, 1) := by decide +kernel
theorem dX12_reads_312 : decode cX12_reads 312 = .ok (.putfield 177, 3) := by decide +kernel
theorem dX12_reads_315 : decode cX12_reads 315 = .ok (.goto (-270), 3) := by decide +kernel
theorem dX12_reads_318 : decode cX12_reads 318 = .ok (.aload_n 0, 1) := by decide +kernel
theorem dX12_reads_319 : decode cX12_reads 319 = .ok (.getfield 183, 3) := by decide +kernel
theorem dX12_reads_322 : decode cX12_reads 322 = .ok (.ifCond .ne 16, 3) := by decide +kernel
theorem dX12_reads_325 : decode cX12_reads 325 = .ok (.aload_n 0, 1) := by decide +kernel
theorem dX12_reads_326 : decode cX12_reads 326 = .ok (.getfield 177, 3) := by decide +kernel
theorem dX12_reads_329 : decode cX12_reads 329 = .ok (.aload_n 0, 1) := by decide +kernel
theorem dX12_reads_330 : decode cX12_reads 330 = .ok (.getfield 47, 3) := by decide +kernel
theorem dX12_reads_333 : decode cX12_reads 333 = .ok (.iload_n 1, 1) := by decide +kernel
theorem dX12_reads_334 : decode cX12_reads 334 = .ok (.iaload, 1) := by decide +kernel
theorem dX12_reads_335 : decode cX12_reads 335 = .ok (.if_icmp .eq 10, 3) := by decide +kernel
theorem dX12_reads_338 : decode cX12_reads 338 = .ok (.aload_n 0, 1) := by decide +kernel
theorem dX12_reads_339 : decode cX12_reads 339 = .ok (.getfield 177, 3) := by decide +kernel
theorem dX12_reads_342 : decode cX12_reads 342 = .ok (.goto 4, 3) := by decide +kernel
theorem dX12_reads_345 : decode cX12_reads 345 = .ok (.iconst (-1), 1) := by decide +kernel
theorem dX12_reads_346 : decode cX12_reads 346 = .ok (.ireturn, 1) := by decide +kernel
theorem dX12_mixed_0 : decode cX12_mixed 0 = .ok (.iload_n 0, 1) := by decide +kernel
theorem dX12_mixed_1 : decode cX12_mixed 1 = .ok (.sipush 7919, 3) := by decide +kernel
theorem dX12_mixed_4 : decode cX12_mixed 4 = .ok (.imul, 1) := by decide +kernel
theorem dX12_mixed_5 : decode cX12_mixed 5 = .ok (.iload_n 1, 1) := by decide +kernel
theorem dX12_mixed_6 : decode cX12_mixed 6 = .ok (.ldc 221, 2) := by decide +kernel
theorem dX12_mixed_8 : decode cX12_mixed 8 = .ok (.imul, 1) := by decide +kernel
theorem dX12_mixed_9 : decode cX12_mixed 9 = .ok (.iadd, 1) := by decide +kernel
theorem dX12_mixed_10 : decode cX12_mixed 10 = .ok (.iload_n 2, 1) := by decide +kernel
theorem dX12_mixed_11 : decode cX12_mixed 11 = .ok (.iadd, 1) := by decide +kernel
theorem dX12_mixed_12 : decode cX12_mixed 12 = .ok (.ldc 222, 2) := by decide +kernel
theorem dX12_mixed_14 : decode cX12_mixed 14 = .ok (.imul, 1) := by decide +kernel
theorem dX12_mixed_15 : decode cX12_mixed 15 = .ok (.sipush 12345, 3) := by decide +kernel
theorem dX12_mixed_18 : decode cX12_mixed 18 = .ok (.iadd, 1) := by decide +kernel
theorem dX12_mixed_19 : decode cX12_mixed 19 = .ok (.bipush 8, 2) := by decide +kernel
theorem dX12_mixed_21 : decode cX12_mixed 21 = .ok (.iushr, 1) := by decide +kernel
theorem dX12_mixed_22 : decode cX12_mixed 22 = .ok (.sipush 1000, 3) := by decide +kernel
theorem dX12_mixed_25 : decode cX12_mixed 25 = .ok (.irem, 1) := by decide +kernel
theorem dX12_mixed_26 : decode cX12_mixed 26 = .ok (.ireturn, 1) := by decide +kernel
theorem dX12_isIn_0 : decode cX12_isIn 0 = .ok (.aload_n 0, 1) := by decide +kernel
theorem dX12_isIn_1 : decode cX12_isIn 1 = .ok (.getfield 32, 3) := by decide +kernel
theorem dX12_isIn_4 : decode cX12_isIn 4 = .ok (.iload_n 1, 1) := by decide +kernel
theorem dX12_isIn_5 : decode cX12_isIn 5 = .ok (.iaload, 1) := by decide +kernel
theorem dX12_isIn_6 : decode cX12_isIn 6 = .ok (.iload_n 2, 1) := by decide +kernel
theorem dX12_isIn_7 : decode cX12_isIn 7 = .ok (.ishr, 1) := by decide +kernel
theorem dX12_isIn_8 : decode cX12_isIn 8 = .ok (.iconst 1, 1) := by decide +kernel
theorem dX12_isIn_9 : decode cX12_isIn 9 = .ok (.iand, 1) := by decide +kernel
theorem dX12_isIn_10 : decode cX12_isIn 10 = .ok (.iconst 1, 1) := by decide +kernel
theorem dX12_isIn_11 : decode cX12_isIn 11 = .ok (.if_icmp .ne 7, 3) := by decide +kernel
theorem dX12_isIn_14 : decode cX12_isIn 14 = .ok (.iconst 1, 1) := by decide +kernel
theorem dX12_isIn_15 : decode cX12_isIn 15 = .ok (.goto 4, 3) := by decide +kernel
theorem dX12_isIn_18 : decode cX12_isIn 18 = .ok (.iconst 0, 1) := by decide +kernel
theorem dX12_isIn_19 : decode cX12_isIn 19 = .ok (.ireturn, 1) := by decide +kernel
theorem dX12_numbers_0 : decode cX12_numbers 0 = .ok (.aload_n 0, 1) := by decide +kernel
theorem dX12_numbers_1 : decode cX12_numbers 1 = .ok (.iconst 0, 1) := by decide +kernel
theorem dX12_numbers_2 : decode cX12_numbers 2 = .ok (.putfield 206, 3) := by decide +kernel
theorem dX12_numbers_5 : decode cX12_numbers 5 = .ok (.aload_n 0, 1) := by decide +kernel
theorem dX12_numbers_6 : decode cX12_numbers 6 = .ok (.iconst 0, 1) := by decide +kernel
theorem dX12_numbers_7 : decode cX12_numbers 7 = .ok (.putfield 209, 3) := by decide +kernel
theorem dX12_numbers_10 : decode cX12_numbers 10 = .ok (.aload_n 0, 1) := by decide +kernel
theorem dX12_numbers_11 : decode cX12_numbers 11 = .ok (.iconst 0, 1) := by decide +kernel
theorem dX12_numbers_12 : decode cX12_numbers 12 = .ok (.putfield 212, 3) := by decide +kernel
theorem dX12_numbers_15 : decode cX12_numbers 15 = .ok (.aload_n 0, 1) := by decide +kernel
theorem dX12_numbers_16 : decode cX12_numbers 16 = .ok (.iconst 0, 1) := by decide +kernel
theorem dX12_numbers_17 : decode cX12_numbers 17 = .ok (.putfield 215, 3) := by decide +kernel
theorem dX12_numbers_20 : decode cX12_numbers 20 = .ok (.iconst 0, 1) := by decide +kernel
theorem dX12_numbers_21 : decode cX12_numbers 21 = .ok (.istore_n 2, 1) := by decide +kernel
theorem dX12_numbers_22 : decode cX12_numbers 22 = .ok (.iconst 0, 1) := by decide +kernel
theorem dX12_numbers_23 : decode cX12_numbers 23 = .ok (.istore_n 3, 1) := by decide +kernel
theorem dX12_numbers_24 : decode cX12_numbers 24 = .ok (.iload_n 3, 1) := by decide +kernel
theorem dX12_numbers_25 : decode cX12_numbers 25 = .ok (.aload_n 0, 1) := by decide +kernel
theorem dX12_numbers_26 : decode cX12_numbers 26 = .ok (.getfield 140, 3) := by decide +kernel
theorem dX12_numbers_29 : decode cX12_numbers 29 = .ok (.if_icmp .ge 122, 3) := by decide +kernel
theorem dX12_numbers_32 : decode cX12_numbers 32 = .ok (.aload_n 0, 1) := by decide +kernel
theorem dX12_numbers_33 : decode cX12_numbers 33 = .ok (.iload_n 1, 1) := by decide +kernel
theorem dX12_numbers_34 : decode cX12_numbers 34 = .ok (.iload_n 3, 1) := by decide +kernel
theorem dX12_numbers_35 : decode cX12_numbers 35 = .ok (.invokevirtual 223, 3) := by decide +kernel
theorem dX12_numbers_38 : decode cX12_numbers 38 = .ok (.ifCond .eq 107, 3) := by decide +kernel
theorem dX12_numbers_41 : decode cX12_numbers 41 = .ok (.aload_n 0, 1) := by decide +kernel
theorem dX12_numbers_42 : decode cX12_numbers 42 = .ok (.getfield 53, 3) := by decide +kernel
theorem dX12_numbers_45 : decode cX12_numbers 45 = .ok (.bipush 12, 2) := by decide +kernel
theorem dX12_numbers_47 : decode cX12_numbers 47 = .ok (.iload_n 1, 1) := by decide +kernel
theorem dX12_numbers_48 : decode cX12_numbers 48 = .ok (.imul, 1) := by decide +kernel
theorem dX12_numbers_49 : decode cX12_numbers 49 = .ok (.iload_n 3, 1) := by decide +kernel
theorem dX12_numbers_50 : decode cX12_numbers 50 = .ok (.iadd, 1) := by decide +kernel
theorem dX12_numbers_51 : decode cX12_numbers 51 = .ok (.iaload, 1) := by decide +kernel
theorem dX12_numbers_52 : decode cX12_numbers 52 = .ok (.istore 4, 2) := by decide +kernel
theorem dX12_numbers_54 : decode cX12_numbers 54 = .ok (.aload_n 0, 1) := by decide +kernel
theorem dX12_numbers_55 : decode cX12_numbers 55 = .ok (.dup, 1) := by decide +kernel
theorem dX12_numbers_56 : decode cX12_numbers 56 = .ok (.getfield 206, 3) := by decide +kernel
theorem dX12_numbers_59 : decode cX12_numbers 59 = .ok (.iconst 1, 1) := by decide +kernel
theorem dX12_numbers_60 : decode cX12_numbers 60 = .ok (.iadd, 1) := by decide +kernel
theorem dX12_numbers_61 : decode cX12_numbers 61 = .ok (.putfield 206, 3) := by decide +kernel
theorem dX12_numbers_64 : decode cX12_numbers 64 = .ok (.aload_n 0, 1) := by decide +kernel
theorem dX12_numbers_65 : decode cX12_numbers 65 = .ok (.dup, 1) := by decide +kernel
theorem dX12_numbers_66 : decode cX12_numbers 66 = .ok (.getfield 209, 3) := by decide +kernel
theorem dX12_numbers_69 : decode cX12_numbers 69 = .ok (.iload_n 2, 1) := by decide +kernel
theorem dX12_numbers_70 : decode cX12_numbers 70 = .ok (.aload_n 0, 1) := by decide +kernel
theorem dX12_numbers_71 : decode cX12_numbers 71 = .ok (.getfield 56, 3) := by decide +kernel
theorem dX12_numbers_74 : decode cX12_numbers 74 = .ok (.bipush 12, 2) := by decide +kernel
theorem dX12_numbers_76 : decode cX12_numbers 76 = .ok (.iload_n 1, 1) := by decide +kernel
theorem dX12_numbers_77 : decode cX12_numbers 77 = .ok (.imul, 1) := by decide +kernel
theorem dX12_numbers_78 : decode cX12_numbers 78 = .ok (.iload_n 3, 1) := by decide +kernel
theorem dX12_numbers_79 : decode cX12_numbers 79 = .ok (.iadd, 1) := by decide +kernel
theorem dX12_numbers_80 : decode cX12_numbers 80 = .ok (.iaload, 1) := by decide +kernel
theorem dX12_numbers_81 : decode cX12_numbers 81 = .ok (.ishr, 1) := by decide +kernel
theorem dX12_numbers_82 : decode cX12_numbers 82 = .ok (.iconst 1, 1) := by decide +kernel
theorem dX12_numbers_83 : decode cX12_numbers 83 = .ok (.iand, 1) := by decide +kernel
theorem dX12_numbers_84 : decode cX12_numbers 84 = .ok (.ifCond .ne 7, 3) := by decide +kernel
theorem dX12_numbers_87 : decode cX12_numbers 87 = .ok (.iconst 1, 1) := by decide +kernel
theorem dX12_numbers_88 : decode cX12_numbers 88 = .ok (.goto 4, 3) := by decide +kernel
theorem dX12_numbers_91 : decode cX12_numbers 91 = .ok (.iconst 0, 1) := by decide +kernel
theorem dX12_numbers_92 : decode cX12_numbers 92 = .ok (.iadd, 1) := by decide +kernel
theorem dX12_numbers_93 : decode cX12_numbers 93 = .ok (.putfield 209, 3) := by decide +kernel
theorem dX12_numbers_96 : decode cX12_numbers 96 = .ok (.iload_n 2, 1) := by decide +kernel
theorem dX12_numbers_97 : decode cX12_numbers 97 = .ok (.iconst 1, 1) := by decide +kernel
theorem dX12_numbers_98 : decode cX12_numbers 98 = .ok (.aload_n 0, 1) := by decide +kernel
theorem dX12_numbers_99 : decode cX12_numbers 99 = .ok (.getfield 56, 3) := by decide +kernel
theorem dX12_numbers_102 : decode cX12_numbers 102 = .ok (.bipush 12, 2) := by decide +kernel
theorem dX12_numbers_104 : decode cX12_numbers 104 = .ok (.iload_n 1, 1) := by decide +kernel
theorem dX12_numbers_105 : decode cX12_numbers 105 = .ok (.imul, 1) := by decide +kernel
theorem dX12_numbers_106 : decode cX12_numbers 106 = .ok (.iload_n 3, 1) := by decide +kernel
theorem dX12_numbers_107 : decode cX12_numbers 107 = .ok (.iadd, 1) := by decide +kernel
theorem dX12_numbers_108 : decode cX12_numbers 108 = .ok (.iaload, 1) := by decide +kernel
theorem dX12_numbers_109 : decode cX12_numbers 109 = .ok (.ishl, 1) := by decide +kernel
theorem dX12_numbers_110 : decode cX12_numbers 110 = .ok (.ior, 1) := by decide +kernel
theorem dX12_numbers_111 : decode cX12_numbers 111 = .ok (.istore_n 2, 1) := by decide +kernel
theorem dX12_numbers_112 : decode cX12_numbers 112 = .ok (.aload_n 0, 1) := by decide +kernel
theorem dX12_numbers_113 : decode cX12_numbers 113 = .ok (.dup, 1) := by decide +kernel
theorem dX12_numbers_114 : decode cX12_numbers 114 = .ok (.getfield 212, 3) := by decide +kernel
theorem dX12_numbers_117 : decode cX12_numbers 117 = .ok (.iload 4, 2) := by decide +kernel
theorem dX12_numbers_119 : decode cX12_numbers 119 = .ok (.iadd, 1) := by decide +kernel
theorem dX12_numbers_120 : decode cX12_numbers 120 = .ok (.putfield 212, 3) := by decide +kernel
theorem dX12_numbers_123 : decode cX12_numbers 123 = .ok (.aload_n 0, 1) := by decide +kernel
theorem dX12_numbers_124 : decode cX12_numbers 124 = .ok (.iload 4, 2) := by decide +kernel
theorem dX12_numbers_126 : decode cX12_numbers 126 = .ok (.aload_n 0, 1) := by decide +kernel
theorem dX12_numbers_127 : decode cX12_numbers 127 = .ok (.getfield 215, 3) := by decide +kernel
theorem dX12_numbers_130 : decode cX12_numbers 130 = .ok (.if_icmp .le 8, 3) := by decide +kernel
theorem dX12_numbers_133 : decode cX12_numbers 133 = .ok (.iload 4, 2) := by decide +kernel
theorem dX12_numbers_135 : decode cX12_numbers 135 = .ok (.goto 7, 3) := by decide +kernel
theorem dX12_numbers_138 : decode cX12_numbers 138 = .ok (.aload_n 0, 1) := by decide +kernel
theorem dX12_numbers_139 : decode cX12_numbers 139 = .ok (.getfield 215, 3) := by decide +kernel
theorem dX12_numbers_142 : decode cX12_numbers 142 = .ok (.putfield 215, 3) := by decide +kernel
theorem dX12_numbers_145 : decode cX12_numbers 145 = .ok (.iinc 3 1, 3) := by decide +kernel
theorem dX12_numbers_148 : decode cX12_numbers 148 = .ok (.goto (-124), 3) := by decide +kernel
theorem dX12_numbers_151 : decode cX12_numbers 151 = .ok (.return_, 1) := by decide +kernel
theorem dX12_sits_0 : decode cX12_sits 0 = .ok (.iconst 0, 1) := by decide +kernel
theorem dX12_sits_1 : decode cX12_sits 1 = .ok (.istore_n 2, 1) := by decide +kernel
theorem dX12_sits_2 : decode cX12_sits 2 = .ok (.iload_n 2, 1) := by decide +kernel
theorem dX12_sits_3 : decode cX12_sits 3 = .ok (.sipush 1000, 3) := by decide +kernel
theorem dX12_sits_6 : decode cX12_sits 6 = .ok (.if_icmp .ge 22, 3) := by decide +kernel
theorem dX12_sits_9 : decode cX12_sits 9 = .ok (.aload_n 0, 1) := by decide +kernel
theorem dX12_sits_10 : decode cX12_sits 10 = .ok (.getfield 62, 3) := by decide +kernel
theorem dX12_sits_13 : decode cX12_sits 13 = .ok (.sipush 1000, 3) := by decide +kernel
theorem dX12_sits_16 : decode cX12_sits 16 = .ok (.iload_n 1, 1) := by decide +kernel
theorem dX12_sits_17 : decode cX12_sits 17 = .ok (.imul, 1) := by decide +kernel
theorem dX12_sits_18 : decode cX12_sits 18 = .ok (.iload_n 2, 1) := by decide +kernel
theorem dX12_sits_19 : decode cX12_sits 19 = .ok (.iadd, 1) := by decide +kernel
theorem dX12_sits_20 : decode cX12_sits 20 = .ok (.iconst (-1), 1) := by decide +kernel
end
section
theorem dX12_sits_21 : decode cX12_sits 21 = .ok (.iastore, 1) := by decide +kernel
theorem dX12_sits_22 : decode cX12_sits 22 = .ok (.iinc 2 1, 3) := by decide +kernel
theorem dX12_sits_25 : decode cX12_sits 25 = .ok (.goto (-23), 3) := by decide +kernel
theorem dX12_sits_28 : decode cX12_sits 28 = .ok (.aload_n 0, 1) := by decide +kernel
theorem dX12_sits_29 : decode cX12_sits 29 = .ok (.getfield 59, 3) := by decide +kernel
theorem dX12_sits_32 : decode cX12_sits 32 = .ok (.iload_n 1, 1) := by decide +kernel
theorem dX12_sits_33 : decode cX12_sits 33 = .ok (.iconst 0, 1) := by decide +kernel
theorem dX12_sits_34 : decode cX12_sits 34 = .ok (.iastore, 1) := by decide +kernel
theorem dX12_sits_35 : decode cX12_sits 35 = .ok (.iconst 0, 1) := by decide +kernel
theorem dX12_sits_36 : decode cX12_sits 36 = .ok (.istore_n 2, 1) := by decide +kernel
theorem dX12_sits_37 : decode cX12_sits 37 = .ok (.iload_n 2, 1) := by decide +kernel
theorem dX12_sits_38 : decode cX12_sits 38 = .ok (.aload_n 0, 1) := by decide +kernel
theorem dX12_sits_39 : decode cX12_sits 39 = .ok (.getfield 140, 3) := by decide +kernel
theorem dX12_sits_42 : decode cX12_sits 42 = .ok (.if_icmp .ge 119, 3) := by decide +kernel
theorem dX12_sits_45 : decode cX12_sits 45 = .ok (.aload_n 0, 1) := by decide +kernel
theorem dX12_sits_46 : decode cX12_sits 46 = .ok (.iload_n 1, 1) := by decide +kernel
theorem dX12_sits_47 : decode cX12_sits 47 = .ok (.iload_n 2, 1) := by decide +kernel
theorem dX12_sits_48 : decode cX12_sits 48 = .ok (.invokevirtual 223, 3) := by decide +kernel
theorem dX12_sits_51 : decode cX12_sits 51 = .ok (.ifCond .eq 19, 3) := by decide +kernel
theorem dX12_sits_54 : decode cX12_sits 54 = .ok (.iconst 4, 1) := by decide +kernel
theorem dX12_sits_55 : decode cX12_sits 55 = .ok (.aload_n 0, 1) := by decide +kernel
theorem dX12_sits_56 : decode cX12_sits 56 = .ok (.getfield 53, 3) := by decide +kernel
theorem dX12_sits_59 : decode cX12_sits 59 = .ok (.bipush 12, 2) := by decide +kernel
theorem dX12_sits_61 : decode cX12_sits 61 = .ok (.iload_n 1, 1) := by decide +kernel
theorem dX12_sits_62 : decode cX12_sits 62 = .ok (.imul, 1) := by decide +kernel
theorem dX12_sits_63 : decode cX12_sits 63 = .ok (.iload_n 2, 1) := by decide +kernel
theorem dX12_sits_64 : decode cX12_sits 64 = .ok (.iadd, 1) := by decide +kernel
theorem dX12_sits_65 : decode cX12_sits 65 = .ok (.iaload, 1) := by decide +kernel
theorem dX12_sits_66 : decode cX12_sits 66 = .ok (.imul, 1) := by decide +kernel
theorem dX12_sits_67 : decode cX12_sits 67 = .ok (.goto 4, 3) := by decide +kernel
theorem dX12_sits_70 : decode cX12_sits 70 = .ok (.iconst 0, 1) := by decide +kernel
theorem dX12_sits_71 : decode cX12_sits 71 = .ok (.istore_n 3, 1) := by decide +kernel
theorem dX12_sits_72 : decode cX12_sits 72 = .ok (.iconst 0, 1) := by decide +kernel
theorem dX12_sits_73 : decode cX12_sits 73 = .ok (.istore 4, 2) := by decide +kernel
theorem dX12_sits_75 : decode cX12_sits 75 = .ok (.iload 4, 2) := by decide +kernel
theorem dX12_sits_77 : decode cX12_sits 77 = .ok (.iload_n 3, 1) := by decide +kernel
theorem dX12_sits_78 : decode cX12_sits 78 = .ok (.if_icmp .ge 77, 3) := by decide +kernel
theorem dX12_sits_81 : decode cX12_sits 81 = .ok (.iload_n 2, 1) := by decide +kernel
theorem dX12_sits_82 : decode cX12_sits 82 = .ok (.iload 4, 2) := by decide +kernel
theorem dX12_sits_84 : decode cX12_sits 84 = .ok (.aload_n 0, 1) := by decide +kernel
theorem dX12_sits_85 : decode cX12_sits 85 = .ok (.getfield 35, 3) := by decide +kernel
theorem dX12_sits_88 : decode cX12_sits 88 = .ok (.iload_n 1, 1) := by decide +kernel
theorem dX12_sits_89 : decode cX12_sits 89 = .ok (.iaload, 1) := by decide +kernel
theorem dX12_sits_90 : decode cX12_sits 90 = .ok (.invokestatic 227, 3) := by decide +kernel
theorem dX12_sits_93 : decode cX12_sits 93 = .ok (.istore 5, 2) := by decide +kernel
theorem dX12_sits_95 : decode cX12_sits 95 = .ok (.aload_n 0, 1) := by decide +kernel
theorem dX12_sits_96 : decode cX12_sits 96 = .ok (.getfield 62, 3) := by decide +kernel
theorem dX12_sits_99 : decode cX12_sits 99 = .ok (.sipush 1000, 3) := by decide +kernel
theorem dX12_sits_102 : decode cX12_sits 102 = .ok (.iload_n 1, 1) := by decide +kernel
theorem dX12_sits_103 : decode cX12_sits 103 = .ok (.imul, 1) := by decide +kernel
theorem dX12_sits_104 : decode cX12_sits 104 = .ok (.iload 5, 2) := by decide +kernel
theorem dX12_sits_106 : decode cX12_sits 106 = .ok (.iadd, 1) := by decide +kernel
theorem dX12_sits_107 : decode cX12_sits 107 = .ok (.iaload, 1) := by decide +kernel
theorem dX12_sits_108 : decode cX12_sits 108 = .ok (.iconst (-1), 1) := by decide +kernel
theorem dX12_sits_109 : decode cX12_sits 109 = .ok (.if_icmp .eq 16, 3) := by decide +kernel
theorem dX12_sits_112 : decode cX12_sits 112 = .ok (.iload 5, 2) := by decide +kernel
theorem dX12_sits_114 : decode cX12_sits 114 = .ok (.iconst 1, 1) := by decide +kernel
theorem dX12_sits_115 : decode cX12_sits 115 = .ok (.iadd, 1) := by decide +kernel
theorem dX12_sits_116 : decode cX12_sits 116 = .ok (.sipush 1000, 3) := by decide +kernel
theorem dX12_sits_119 : decode cX12_sits 119 = .ok (.irem, 1) := by decide +kernel
theorem dX12_sits_120 : decode cX12_sits 120 = .ok (.istore 5, 2) := by decide +kernel
theorem dX12_sits_122 : decode cX12_sits 122 = .ok (.goto (-27), 3) := by decide +kernel
theorem dX12_sits_125 : decode cX12_sits 125 = .ok (.aload_n 0, 1) := by decide +kernel
theorem dX12_sits_126 : decode cX12_sits 126 = .ok (.getfield 62, 3) := by decide +kernel
theorem dX12_sits_129 : decode cX12_sits 129 = .ok (.sipush 1000, 3) := by decide +kernel
theorem dX12_sits_132 : decode cX12_sits 132 = .ok (.iload_n 1, 1) := by decide +kernel
theorem dX12_sits_133 : decode cX12_sits 133 = .ok (.imul, 1) := by decide +kernel
theorem dX12_sits_134 : decode cX12_sits 134 = .ok (.iload 5, 2) := by decide +kernel
theorem dX12_sits_136 : decode cX12_sits 136 = .ok (.iadd, 1) := by decide +kernel
theorem dX12_sits_137 : decode cX12_sits 137 = .ok (.iload_n 2, 1) := by decide +kernel
theorem dX12_sits_138 : decode cX12_sits 138 = .ok (.iastore, 1) := by decide +kernel
theorem dX12_sits_139 : decode cX12_sits 139 = .ok (.aload_n 0, 1) := by decide +kernel
theorem dX12_sits_140 : decode cX12_sits 140 = .ok (.getfield 59, 3) := by decide +kernel
theorem dX12_sits_143 : decode cX12_sits 143 = .ok (.iload_n 1, 1) := by decide +kernel
theorem dX12_sits_144 : decode cX12_sits 144 = .ok (.dup2, 1) := by decide +kernel
theorem dX12_sits_145 : decode cX12_sits 145 = .ok (.iaload, 1) := by decide +kernel
theorem dX12_sits_146 : decode cX12_sits 146 = .ok (.iconst 1, 1) := by decide +kernel
theorem dX12_sits_147 : decode cX12_sits 147 = .ok (.iadd, 1) := by decide +kernel
theorem dX12_sits_148 : decode cX12_sits 148 = .ok (.iastore, 1) := by decide +kernel
theorem dX12_sits_149 : decode cX12_sits 149 = .ok (.iinc 4 1, 3) := by decide +kernel
theorem dX12_sits_152 : decode cX12_sits 152 = .ok (.goto (-77), 3) := by decide +kernel
theorem dX12_sits_155 : decode cX12_sits 155 = .ok (.iinc 2 1, 3) := by decide +kernel
theorem dX12_sits_158 : decode cX12_sits 158 = .ok (.goto (-121), 3) := by decide +kernel
theorem dX12_sits_161 : decode cX12_sits 161 = .ok (.return_, 1) := by decide +kernel
theorem dX12_table_16 : decode cX12_table 16 = .ok (.aload_n 0, 1) := by decide +kernel
theorem dX12_table_17 : decode cX12_table 17 = .ok (.getfield 143, 3) := by decide +kernel
theorem dX12_table_20 : decode cX12_table 20 = .ok (.bipush 10, 2) := by decide +kernel
theorem dX12_table_22 : decode cX12_table 22 = .ok (.if_icmp .ne 6, 3) := by decide +kernel
theorem dX12_table_25 : decode cX12_table 25 = .ok (.bipush (-3), 2) := by decide +kernel
theorem dX12_table_27 : decode cX12_table 27 = .ok (.ireturn, 1) := by decide +kernel
theorem dX12_table_28 : decode cX12_table 28 = .ok (.aload_n 0, 1) := by decide +kernel
theorem dX12_table_29 : decode cX12_table 29 = .ok (.getfield 143, 3) := by decide +kernel
theorem dX12_table_32 : decode cX12_table 32 = .ok (.istore_n 3, 1) := by decide +kernel
theorem dX12_table_33 : decode cX12_table 33 = .ok (.aload_n 0, 1) := by decide +kernel
theorem dX12_table_34 : decode cX12_table 34 = .ok (.getfield 32, 3) := by decide +kernel
theorem dX12_table_37 : decode cX12_table 37 = .ok (.iload_n 3, 1) := by decide +kernel
theorem dX12_table_38 : decode cX12_table 38 = .ok (.iload_n 1, 1) := by decide +kernel
theorem dX12_table_39 : decode cX12_table 39 = .ok (.iastore, 1) := by decide +kernel
theorem dX12_table_40 : decode cX12_table 40 = .ok (.aload_n 0, 1) := by decide +kernel
theorem dX12_table_41 : decode cX12_table 41 = .ok (.getfield 35, 3) := by decide +kernel
theorem dX12_table_44 : decode cX12_table 44 = .ok (.iload_n 3, 1) := by decide +kernel
theorem dX12_table_45 : decode cX12_table 45 = .ok (.iload_n 2, 1) := by decide +kernel
theorem dX12_table_46 : decode cX12_table 46 = .ok (.iastore, 1) := by decide +kernel
theorem dX12_table_47 : decode cX12_table 47 = .ok (.iconst 0, 1) := by decide +kernel
theorem dX12_table_48 : decode cX12_table 48 = .ok (.istore 4, 2) := by decide +kernel
theorem dX12_table_50 : decode cX12_table 50 = .ok (.iload 4, 2) := by decide +kernel
theorem dX12_table_52 : decode cX12_table 52 = .ok (.aload_n 0, 1) := by decide +kernel
theorem dX12_table_53 : decode cX12_table 53 = .ok (.getfield 140, 3) := by decide +kernel
theorem dX12_table_56 : decode cX12_table 56 = .ok (.if_icmp .ge 46, 3) := by decide +kernel
theorem dX12_table_59 : decode cX12_table 59 = .ok (.aload_n 0, 1) := by decide +kernel
theorem dX12_table_60 : decode cX12_table 60 = .ok (.getfield 53, 3) := by decide +kernel
theorem dX12_table_63 : decode cX12_table 63 = .ok (.bipush 12, 2) := by decide +kernel
theorem dX12_table_65 : decode cX12_table 65 = .ok (.iload_n 3, 1) := by decide +kernel
theorem dX12_table_66 : decode cX12_table 66 = .ok (.imul, 1) := by decide +kernel
theorem dX12_table_67 : decode cX12_table 67 = .ok (.iload 4, 2) := by decide +kernel
theorem dX12_table_69 : decode cX12_table 69 = .ok (.iadd, 1) := by decide +kernel
theorem dX12_table_70 : decode cX12_table 70 = .ok (.aload_n 0, 1) := by decide +kernel
theorem dX12_table_71 : decode cX12_table 71 = .ok (.iload 4, 2) := by decide +kernel
theorem dX12_table_73 : decode cX12_table 73 = .ok (.invokevirtual 170, 3) := by decide +kernel
theorem dX12_table_76 : decode cX12_table 76 = .ok (.iastore, 1) := by decide +kernel
theorem dX12_table_77 : decode cX12_table 77 = .ok (.aload_n 0, 1) := by decide +kernel
theorem dX12_table_78 : decode cX12_table 78 = .ok (.getfield 56, 3) := by decide +kernel
theorem dX12_table_81 : decode cX12_table 81 = .ok (.bipush 12, 2) := by decide +kernel
theorem dX12_table_83 : decode cX12_table 83 = .ok (.iload_n 3, 1) := by decide +kernel
theorem dX12_table_84 : decode cX12_table 84 = .ok (.imul, 1) := by decide +kernel
theorem dX12_table_85 : decode cX12_table 85 = .ok (.iload 4, 2) := by decide +kernel
theorem dX12_table_87 : decode cX12_table 87 = .ok (.iadd, 1) := by decide +kernel
theorem dX12_table_88 : decode cX12_table 88 = .ok (.aload_n 0, 1) := by decide +kernel
theorem dX12_table_89 : decode cX12_table 89 = .ok (.getfield 16, 3) := by decide +kernel
theorem dX12_table_92 : decode cX12_table 92 = .ok (.iload 4, 2) := by decide +kernel
theorem dX12_table_94 : decode cX12_table 94 = .ok (.iaload, 1) := by decide +kernel
theorem dX12_table_95 : decode cX12_table 95 = .ok (.iastore, 1) := by decide +kernel
theorem dX12_table_96 : decode cX12_table 96 = .ok (.iinc 4 1, 3) := by decide +kernel
theorem dX12_table_99 : decode cX12_table 99 = .ok (.goto (-49), 3) := by decide +kernel
theorem dX12_table_102 : decode cX12_table 102 = .ok (.aload_n 0, 1) := by decide +kernel
theorem dX12_table_103 : decode cX12_table 103 = .ok (.getfield 47, 3) := by decide +kernel
theorem dX12_table_106 : decode cX12_table 106 = .ok (.iload_n 3, 1) := by decide +kernel
theorem dX12_table_107 : decode cX12_table 107 = .ok (.aload_n 0, 1) := by decide +kernel
theorem dX12_table_108 : decode cX12_table 108 = .ok (.getfield 146, 3) := by decide +kernel
theorem dX12_table_111 : decode cX12_table 111 = .ok (.iastore, 1) := by decide +kernel
theorem dX12_table_112 : decode cX12_table 112 = .ok (.iconst 0, 1) := by decide +kernel
theorem dX12_table_113 : decode cX12_table 113 = .ok (.istore 4, 2) := by decide +kernel
theorem dX12_table_115 : decode cX12_table 115 = .ok (.iload 4, 2) := by decide +kernel
theorem dX12_table_117 : decode cX12_table 117 = .ok (.aload_n 0, 1) := by decide +kernel
theorem dX12_table_118 : decode cX12_table 118 = .ok (.getfield 146, 3) := by decide +kernel
theorem dX12_table_121 : decode cX12_table 121 = .ok (.if_icmp .ge 28, 3) := by decide +kernel
theorem dX12_table_124 : decode cX12_table 124 = .ok (.aload_n 0, 1) := by decide +kernel
theorem dX12_table_125 : decode cX12_table 125 = .ok (.getfield 50, 3) := by decide +kernel
theorem dX12_table_128 : decode cX12_table 128 = .ok (.bipush 80, 2) := by decide +kernel
theorem dX12_table_130 : decode cX12_table 130 = .ok (.iload_n 3, 1) := by decide +kernel
theorem dX12_table_131 : decode cX12_table 131 = .ok (.imul, 1) := by decide +kernel
theorem dX12_table_132 : decode cX12_table 132 = .ok (.iload 4, 2) := by decide +kernel
theorem dX12_table_134 : decode cX12_table 134 = .ok (.iadd, 1) := by decide +kernel
theorem dX12_table_135 : decode cX12_table 135 = .ok (.aload_n 0, 1) := by decide +kernel
theorem dX12_table_136 : decode cX12_table 136 = .ok (.getfield 65, 3) := by decide +kernel
theorem dX12_table_139 : decode cX12_table 139 = .ok (.iload 4, 2) := by decide +kernel
theorem dX12_table_141 : decode cX12_table 141 = .ok (.iaload, 1) := by decide +kernel
theorem dX12_table_142 : decode cX12_table 142 = .ok (.iastore, 1) := by decide +kernel
theorem dX12_table_143 : decode cX12_table 143 = .ok (.iinc 4 1, 3) := by decide +kernel
theorem dX12_table_146 : decode cX12_table 146 = .ok (.goto (-31), 3) := by decide +kernel
theorem dX12_table_149 : decode cX12_table 149 = .ok (.aload_n 0, 1) := by decide +kernel
theorem dX12_table_150 : decode cX12_table 150 = .ok (.iconst 0, 1) := by decide +kernel
theorem dX12_table_151 : decode cX12_table 151 = .ok (.putfield 146, 3) := by decide +kernel
theorem dX12_table_154 : decode cX12_table 154 = .ok (.aload_n 0, 1) := by decide +kernel
theorem dX12_table_155 : decode cX12_table 155 = .ok (.iload_n 3, 1) := by decide +kernel
theorem dX12_table_156 : decode cX12_table 156 = .ok (.invokevirtual 231, 3) := by decide +kernel
theorem dX12_table_159 : decode cX12_table 159 = .ok (.aload_n 0, 1) := by decide +kernel
theorem dX12_table_160 : decode cX12_table 160 = .ok (.iload_n 3, 1) := by decide +kernel
theorem dX12_table_161 : decode cX12_table 161 = .ok (.invokevirtual 234, 3) := by decide +kernel
theorem dX12_table_164 : decode cX12_table 164 = .ok (.istore 4, 2) := by decide +kernel
theorem dX12_table_166 : decode cX12_table 166 = .ok (.iload 4, 2) := by decide +kernel
theorem dX12_table_168 : decode cX12_table 168 = .ok (.ifCond .lt 9, 3) := by decide +kernel
theorem dX12_table_171 : decode cX12_table 171 = .ok (.bipush (-100), 2) := by decide +kernel
theorem dX12_table_173 : decode cX12_table 173 = .ok (.iload 4, 2) := by decide +kernel
theorem dX12_table_175 : decode cX12_table 175 = .ok (.isub, 1) := by decide +kernel
theorem dX12_table_176 : decode cX12_table 176 = .ok (.ireturn, 1) := by decide +kernel
theorem dX12_table_177 : decode cX12_table 177 = .ok (.aload_n 0, 1) := by decide +kernel
theorem dX12_table_178 : decode cX12_table 178 = .ok (.iload_n 3, 1) := by decide +kernel
theorem dX12_table_179 : decode cX12_table 179 = .ok (.invokevirtual 237, 3) := by decide +kernel
theorem dX12_table_182 : decode cX12_table 182 = .ok (.aload_n 0, 1) := by decide +kernel
theorem dX12_table_183 : decode cX12_table 183 = .ok (.dup, 1) := by decide +kernel
theorem dX12_table_184 : decode cX12_table 184 = .ok (.getfield 143, 3) := by decide +kernel
theorem dX12_table_187 : decode cX12_table 187 = .ok (.iconst 1, 1) := by decide +kernel
theorem dX12_table_188 : decode cX12_table 188 = .ok (.iadd, 1) := by decide +kernel
theorem dX12_table_189 : decode cX12_table 189 = .ok (.putfield 143, 3) := by decide +kernel
theorem dX12_table_192 : decode cX12_table 192 = .ok (.iload_n 3, 1) := by decide +kernel
theorem dX12_table_193 : decode cX12_table 193 = .ok (.ireturn, 1) := by decide +kernel
theorem dX12_pickNext_0 : decode cX12_pickNext 0 = .ok (.iload_n 2, 1) := by decide +kernel
theorem dX12_pickNext_1 : decode cX12_pickNext 1 = .ok (.istore 4, 2) := by decide +kernel
theorem dX12_pickNext_3 : decode cX12_pickNext 3 = .ok (.aload_n 0, 1) := by decide +kernel
theorem dX12_pickNext_4 : decode cX12_pickNext 4 = .ok (.getfield 62, 3) := by decide +kernel
theorem dX12_pickNext_7 : decode cX12_pickNext 7 = .ok (.sipush 1000, 3) := by decide +kernel
theorem dX12_pickNext_10 : decode cX12_pickNext 10 = .ok (.iload_n 1, 1) := by decide +kernel
theorem dX12_pickNext_11 : decode cX12_pickNext 11 = .ok (.imul, 1) := by decide +kernel
theorem dX12_pickNext_12 : decode cX12_pickNext 12 = .ok (.iload 4, 2) := by decide +kernel
theorem dX12_pickNext_14 : decode cX12_pickNext 14 = .ok (.iadd, 1) := by decide +kernel
theorem dX12_pickNext_15 : decode cX12_pickNext 15 = .ok (.iaload, 1) := by decide +kernel
theorem dX12_pickNext_16 : decode cX12_pickNext 16 = .ok (.iconst (-1), 1) := by decide +kernel
theorem dX12_pickNext_17 : decode cX12_pickNext 17 = .ok (.if_icmp .eq 24, 3) := by decide +kernel
theorem dX12_pickNext_20 : decode cX12_pickNext 20 = .ok (.iload_n 3, 1) := by decide +kernel
theorem dX12_pickNext_21 : decode cX12_pickNext 21 = .ok (.aload_n 0, 1) := by decide +kernel
theorem dX12_pickNext_22 : decode cX12_pickNext 22 = .ok (.getfield 62, 3) := by decide +kernel
theorem dX12_pickNext_25 : decode cX12_pickNext 25 = .ok (.sipush 1000, 3) := by decide +kernel
theorem dX12_pickNext_28 : decode cX12_pickNext 28 = .ok (.iload_n 1, 1) := by decide +kernel
theorem dX12_pickNext_29 : decode cX12_pickNext 29 = .ok (.imul, 1) := by decide +kernel
theorem dX12_pickNext_30 : decode cX12_pickNext 30 = .ok (.iload 4, 2) := by decide +kernel
theorem dX12_pickNext_32 : decode cX12_pickNext 32 = .ok (.iadd, 1) := by decide +kernel
theorem dX12_pickNext_33 : decode cX12_pickNext 33 = .ok (.iaload, 1) := by decide +kernel
theorem dX12_pickNext_34 : decode cX12_pickNext 34 = .ok (.ishr, 1) := by decide +kernel
theorem dX12_pickNext_35 : decode cX12_pickNext 35 = .ok (.iconst 1, 1) := by decide +kernel
theorem dX12_pickNext_36 : decode cX12_pickNext 36 = .ok (.iand, 1) := by decide +kernel
theorem dX12_pickNext_37 : decode cX12_pickNext 37 = .ok (.iconst 1, 1) := by decide +kernel
theorem dX12_pickNext_38 : decode cX12_pickNext 38 = .ok (.if_icmp .ne 16, 3) := by decide +kernel
theorem dX12_pickNext_41 : decode cX12_pickNext 41 = .ok (.iload 4, 2) := by decide +kernel
theorem dX12_pickNext_43 : decode cX12_pickNext 43 = .ok (.iconst 1, 1) := by decide +kernel
theorem dX12_pickNext_44 : decode cX12_pickNext 44 = .ok (.iadd, 1) := by decide +kernel
theorem dX12_pickNext_45 : decode cX12_pickNext 45 = .ok (.sipush 1000, 3) := by decide +kernel
theorem dX12_pickNext_48 : decode cX12_pickNext 48 = .ok (.irem, 1) := by decide +kernel
theorem dX12_pickNext_49 : decode cX12_pickNext 49 = .ok (.istore 4, 2) := by decide +kernel
theorem dX12_pickNext_51 : decode cX12_pickNext 51 = .ok (.goto (-48), 3) := by decide +kernel
theorem dX12_pickNext_54 : decode cX12_pickNext 54 = .ok (.aload_n 0, 1) := by decide +kernel
theorem dX12_pickNext_55 : decode cX12_pickNext 55 = .ok (.getfield 118, 3) := by decide +kernel
theorem dX12_pickNext_58 : decode cX12_pickNext 58 = .ok (.aload_n 0, 1) := by decide +kernel
theorem dX12_pickNext_59 : decode cX12_pickNext 59 = .ok (.getfield 240, 3) := by decide +kernel
theorem dX12_pickNext_62 : decode cX12_pickNext 62 = .ok (.aload_n 0, 1) := by decide +kernel
theorem dX12_pickNext_63 : decode cX12_pickNext 63 = .ok (.getfield 62, 3) := by decide +kernel
theorem dX12_pickNext_66 : decode cX12_pickNext 66 = .ok (.sipush 1000, 3) := by decide +kernel
theorem dX12_pickNext_69 : decode cX12_pickNext 69 = .ok (.iload_n 1, 1) := by decide +kernel
theorem dX12_pickNext_70 : decode cX12_pickNext 70 = .ok (.imul, 1) := by decide +kernel
theorem dX12_pickNext_71 : decode cX12_pickNext 71 = .ok (.iload 4, 2) := by decide +kernel
theorem dX12_pickNext_73 : decode cX12_pickNext 73 = .ok (.iadd, 1) := by decide +kernel
theorem dX12_pickNext_74 : decode cX12_pickNext 74 = .ok (.iaload, 1) := by decide +kernel
theorem dX12_pickNext_75 : decode cX12_pickNext 75 = .ok (.iastore, 1) := by decide +kernel
theorem dX12_pickNext_76 : decode cX12_pickNext 76 = .ok (.aload_n 0, 1) := by decide +kernel
theorem dX12_pickNext_77 : decode cX12_pickNext 77 = .ok (.dup, 1) := by decide +kernel
theorem dX12_pickNext_78 : decode cX12_pickNext 78 = .ok (.getfield 240, 3) := by decide +kernel
theorem dX12_pickNext_81 : decode cX12_pickNext 81 = .ok (.iconst 1, 1) := by decide +kernel
theorem dX12_pickNext_82 : decode cX12_pickNext 82 = .ok (.iadd, 1) := by decide +kernel
theorem dX12_pickNext_83 : decode cX12_pickNext 83 = .ok (.putfield 240, 3) := by decide +kernel
theorem dX12_pickNext_86 : decode cX12_pickNext 86 = .ok (.return_, 1) := by decide +kernel
theorem dX12_pick_0 : decode cX12_pick 0 = .ok (.aload_n 0, 1) := by decide +kernel
theorem dX12_pick_1 : decode cX12_pick 1 = .ok (.iconst 0, 1) := by decide +kernel
theorem dX12_pick_2 : decode cX12_pick 2 = .ok (.putfield 240, 3) := by decide +kernel
theorem dX12_pick_5 : decode cX12_pick 5 = .ok (.iconst 0, 1) := by decide +kernel
theorem dX12_pick_6 : decode cX12_pick 6 = .ok (.istore_n 3, 1) := by decide +kernel
theorem dX12_pick_7 : decode cX12_pick 7 = .ok (.iload_n 2, 1) := by decide +kernel
theorem dX12_pick_8 : decode cX12_pick 8 = .ok (.istore 4, 2) := by decide +kernel
theorem dX12_pick_10 : decode cX12_pick 10 = .ok (.iload_n 3, 1) := by decide +kernel
theorem dX12_pick_11 : decode cX12_pick 11 = .ok (.aload_n 0, 1) := by decide +kernel
theorem dX12_pick_12 : decode cX12_pick 12 = .ok (.getfield 32, 3) := by decide +kernel
theorem dX12_pick_15 : decode cX12_pick 15 = .ok (.iload_n 1, 1) := by decide +kernel
theorem dX12_pick_16 : decode cX12_pick 16 = .ok (.iaload, 1) := by decide +kernel
theorem dX12_pick_17 : decode cX12_pick 17 = .ok (.if_icmp .eq 77, 3) := by decide +kernel
theorem dX12_pick_20 : decode cX12_pick 20 = .ok (.aload_n 0, 1) := by decide +kernel
theorem dX12_pick_21 : decode cX12_pick 21 = .ok (.getfield 44, 3) := by decide +kernel
theorem dX12_pick_24 : decode cX12_pick 24 = .ok (.iload_n 1, 1) := by decide +kernel
theorem dX12_pick_25 : decode cX12_pick 25 = .ok (.iaload, 1) := by decide +kernel
theorem dX12_pick_26 : decode cX12_pick 26 = .ok (.iconst 1, 1) := by decide +kernel
theorem dX12_pick_27 : decode cX12_pick 27 = .ok (.if_icmp .ne 13, 3) := by decide +kernel
theorem dX12_pick_30 : decode cX12_pick 30 = .ok (.aload_n 0, 1) := by decide +kernel
theorem dX12_pick_31 : decode cX12_pick 31 = .ok (.iload_n 1, 1) := by decide +kernel
theorem dX12_pick_32 : decode cX12_pick 32 = .ok (.iload_n 2, 1) := by decide +kernel
theorem dX12_pick_33 : decode cX12_pick 33 = .ok (.iload_n 3, 1) := by decide +kernel
theorem dX12_pick_34 : decode cX12_pick 34 = .ok (.invokevirtual 243, 3) := by decide +kernel
theorem dX12_pick_37 : decode cX12_pick 37 = .ok (.goto 38, 3) := by decide +kernel
theorem dX12_pick_40 : decode cX12_pick 40 = .ok (.aload_n 0, 1) := by decide +kernel
theorem dX12_pick_41 : decode cX12_pick 41 = .ok (.iload_n 1, 1) := by decide +kernel
theorem dX12_pick_42 : decode cX12_pick 42 = .ok (.iload 4, 2) := by decide +kernel
theorem dX12_pick_44 : decode cX12_pick 44 = .ok (.iload_n 3, 1) := by decide +kernel
theorem dX12_pick_45 : decode cX12_pick 45 = .ok (.invokevirtual 247, 3) := by decide +kernel
theorem dX12_pick_48 : decode cX12_pick 48 = .ok (.aload_n 0, 1) := by decide +kernel
theorem dX12_pick_49 : decode cX12_pick 49 = .ok (.getfield 44, 3) := by decide +kernel
theorem dX12_pick_52 : decode cX12_pick 52 = .ok (.iload_n 1, 1) := by decide +kernel
theorem dX12_pick_53 : decode cX12_pick 53 = .ok (.iaload, 1) := by decide +kernel
theorem dX12_pick_54 : decode cX12_pick 54 = .ok (.iconst 2, 1) := by decide +kernel
theorem dX12_pick_55 : decode cX12_pick 55 = .ok (.if_icmp .ne 16, 3) := by decide +kernel
theorem dX12_pick_58 : decode cX12_pick 58 = .ok (.iload 4, 2) := by decide +kernel
theorem dX12_pick_60 : decode cX12_pick 60 = .ok (.sipush 333, 3) := by decide +kernel
theorem dX12_pick_63 : decode cX12_pick 63 = .ok (.iadd, 1) := by decide +kernel
theorem dX12_pick_64 : decode cX12_pick 64 = .ok (.sipush 1000, 3) := by decide +kernel
theorem dX12_pick_67 : decode cX12_pick 67 = .ok (.irem, 1) := by decide +kernel
theorem dX12_pick_68 : decode cX12_pick 68 = .ok (.goto 5, 3) := by decide +kernel
theorem dX12_pick_71 : decode cX12_pick 71 = .ok (.iload 4, 2) := by decide +kernel
theorem dX12_pick_73 : decode cX12_pick 73 = .ok (.istore 4, 2) := by decide +kernel
theorem dX12_pick_75 : decode cX12_pick 75 = .ok (.iload_n 3, 1) := by decide +kernel
theorem dX12_pick_76 : decode cX12_pick 76 = .ok (.iconst 1, 1) := by decide +kernel
theorem dX12_pick_77 : decode cX12_pick 77 = .ok (.aload_n 0, 1) := by decide +kernel
theorem dX12_pick_78 : decode cX12_pick 78 = .ok (.getfield 118, 3) := by decide +kernel
theorem dX12_pick_81 : decode cX12_pick 81 = .ok (.aload_n 0, 1) := by decide +kernel
theorem dX12_pick_82 : decode cX12_pick 82 = .ok (.getfield 240, 3) := by decide +kernel
theorem dX12_pick_85 : decode cX12_pick 85 = .ok (.iconst 1, 1) := by decide +kernel
theorem dX12_pick_86 : decode cX12_pick 86 = .ok (.isub, 1) := by decide +kernel
theorem dX12_pick_87 : decode cX12_pick 87 = .ok (.iaload, 1) := by decide +kernel
theorem dX12_pick_88 : decode cX12_pick 88 = .ok (.ishl, 1) := by decide +kernel
theorem dX12_pick_89 : decode cX12_pick 89 = .ok (.ior, 1) := by decide +kernel
theorem dX12_pick_90 : decode cX12_pick 90 = .ok (.istore_n 3, 1) := by decide +kernel
theorem dX12_pick_91 : decode cX12_pick 91 = .ok (.goto (-81), 3) := by decide +kernel
theorem dX12_pick_94 : decode cX12_pick 94 = .ok (.return_, 1) := by decide +kernel
theorem dX12_pickBest_0 : decode cX12_pickBest 0 = .ok (.iconst (-1), 1) := by decide +kernel
theorem dX12_pickBest_1 : decode cX12_pickBest 1 = .ok (.istore 4, 2) := by decide +kernel
theorem dX12_pickBest_3 : decode cX12_pickBest 3 = .ok (.iconst 0, 1) := by decide +kernel
theorem dX12_pickBest_4 : decode cX12_pickBest 4 = .ok (.istore 5, 2) := by decide +kernel
theorem dX12_pickBest_6 : decode cX12_pickBest 6 = .ok (.iconst 0, 1) := by decide +kernel
theorem dX12_pickBest_7 : decode cX12_pickBest 7 = .ok (.istore 6, 2) := by decide +kernel
theorem dX12_pickBest_9 : decode cX12_pickBest 9 = .ok (.iload 6, 2) := by decide +kernel
theorem dX12_pickBest_11 : decode cX12_pickBest 11 = .ok (.aload_n 0, 1) := by decide +kernel
theorem dX12_pickBest_12 : decode cX12_pickBest 12 = .ok (.getfield 140, 3) := by decide +kernel
theorem dX12_pickBest_15 : decode cX12_pickBest 15 = .ok (.if_icmp .ge 76, 3) := by decide +kernel
theorem dX12_pickBest_18 : decode cX12_pickBest 18 = .ok (.iload_n 2, 1) := by decide +kernel
theorem dX12_pickBest_19 : decode cX12_pickBest 19 = .ok (.iload 6, 2) := by decide +kernel
theorem dX12_pickBest_21 : decode cX12_pickBest 21 = .ok (.aload_n 0, 1) := by decide +kernel
theorem dX12_pickBest_22 : decode cX12_pickBest 22 = .ok (.getfield 35, 3) := by decide +kernel
theorem dX12_pickBest_25 : decode cX12_pickBest 25 = .ok (.iload_n 1, 1) := by decide +kernel
theorem dX12_pickBest_26 : decode cX12_pickBest 26 = .ok (.iaload, 1) := by decide +kernel
theorem dX12_pickBest_27 : decode cX12_pickBest 27 = .ok (.invokestatic 227, 3) := by decide +kernel
theorem dX12_pickBest_30 : decode cX12_pickBest 30 = .ok (.aload_n 0, 1) := by decide +kernel
theorem dX12_pickBest_31 : decode cX12_pickBest 31 = .ok (.getfield 53, 3) := by decide +kernel
theorem dX12_pickBest_34 : decode cX12_pickBest 34 = .ok (.bipush 12, 2) := by decide +kernel
theorem dX12_pickBest_36 : decode cX12_pickBest 36 = .ok (.iload_n 1, 1) := by decide +kernel
theorem dX12_pickBest_37 : decode cX12_pickBest 37 = .ok (.imul, 1) := by decide +kernel
theorem dX12_pickBest_38 : decode cX12_pickBest 38 = .ok (.iload 6, 2) := by decide +kernel
theorem dX12_pickBest_40 : decode cX12_pickBest 40 = .ok (.iadd, 1) := by decide +kernel
theorem dX12_pickBest_41 : decode cX12_pickBest 41 = .ok (.iaload, 1) := by decide +kernel
theorem dX12_pickBest_42 : decode cX12_pickBest 42 = .ok (.imul, 1) := by decide +kernel
theorem dX12_pickBest_43 : decode cX12_pickBest 43 = .ok (.istore 7, 2) := by decide +kernel
theorem dX12_pickBest_45 : decode cX12_pickBest 45 = .ok (.aload_n 0, 1) := by decide +kernel
theorem dX12_pickBest_46 : decode cX12_pickBest 46 = .ok (.iload_n 1, 1) := by decide +kernel
theorem dX12_pickBest_47 : decode cX12_pickBest 47 = .ok (.iload 6, 2) := by decide +kernel
theorem dX12_pickBest_49 : decode cX12_pickBest 49 = .ok (.invokevirtual 223, 3) := by decide +kernel
theorem dX12_pickBest_52 : decode cX12_pickBest 52 = .ok (.ifCond .eq 33, 3) := by decide +kernel
theorem dX12_pickBest_55 : decode cX12_pickBest 55 = .ok (.iload_n 3, 1) := by decide +kernel
theorem dX12_pickBest_56 : decode cX12_pickBest 56 = .ok (.iload 6, 2) := by decide +kernel
theorem dX12_pickBest_58 : decode cX12_pickBest 58 = .ok (.ishr, 1) := by decide +kernel
theorem dX12_pickBest_59 : decode cX12_pickBest 59 = .ok (.iconst 1, 1) := by decide +kernel
theorem dX12_pickBest_60 : decode cX12_pickBest 60 = .ok (.iand, 1) := by decide +kernel
theorem dX12_pickBest_61 : decode cX12_pickBest 61 = .ok (.ifCond .ne 24, 3) := by decide +kernel
theorem dX12_pickBest_64 : decode cX12_pickBest 64 = .ok (.iload 4, 2) := by decide +kernel
theorem dX12_pickBest_66 : decode cX12_pickBest 66 = .ok (.iconst (-1), 1) := by decide +kernel
theorem dX12_pickBest_67 : decode cX12_pickBest 67 = .ok (.if_icmp .eq 10, 3) := by decide +kernel
theorem dX12_pickBest_70 : decode cX12_pickBest 70 = .ok (.iload 7, 2) := by decide +kernel
theorem dX12_pickBest_72 : decode cX12_pickBest 72 = .ok (.iload 5, 2) := by decide +kernel
theorem dX12_pickBest_74 : decode cX12_pickBest 74 = .ok (.if_icmp .le 11, 3) := by decide +kernel
theorem dX12_pickBest_77 : decode cX12_pickBest 77 = .ok (.iload 6, 2) := by decide +kernel
theorem dX12_pickBest_79 : decode cX12_pickBest 79 = .ok (.istore 4, 2) := by decide +kernel
theorem dX12_pickBest_81 : decode cX12_pickBest 81 = .ok (.iload 7, 2) := by decide +kernel
theorem dX12_pickBest_83 : decode cX12_pickBest 83 = .ok (.istore 5, 2) := by decide +kernel
theorem dX12_pickBest_85 : decode cX12_pickBest 85 = .ok (.iinc 6 1, 3) := by decide +kernel
theorem dX12_pickBest_88 : decode cX12_pickBest 88 = .ok (.goto (-79), 3) := by decide +kernel
theorem dX12_pickBest_91 : decode cX12_pickBest 91 = .ok (.aload_n 0, 1) := by decide +kernel
theorem dX12_pickBest_92 : decode cX12_pickBest 92 = .ok (.getfield 118, 3) := by decide +kernel
theorem dX12_pickBest_95 : decode cX12_pickBest 95 = .ok (.aload_n 0, 1) := by decide +kernel
theorem dX12_pickBest_96 : decode cX12_pickBest 96 = .ok (.getfield 240, 3) := by decide +kernel
theorem dX12_pickBest_99 : decode cX12_pickBest 99 = .ok (.iload 4, 2) := by decide +kernel
theorem dX12_pickBest_101 : decode cX12_pickBest 101 = .ok (.iastore, 1) := by decide +kernel
theorem dX12_pickBest_102 : decode cX12_pickBest 102 = .ok (.aload_n 0, 1) := by decide +kernel
theorem dX12_pickBest_103 : decode cX12_pickBest 103 = .ok (.dup, 1) := by decide +kernel
theorem dX12_pickBest_104 : decode cX12_pickBest 104 = .ok (.getfield 240, 3) := by decide +kernel
theorem dX12_pickBest_107 : decode cX12_pickBest 107 = .ok (.iconst 1, 1) := by decide +kernel
theorem dX12_pickBest_108 : decode cX12_pickBest 108 = .ok (.iadd, 1) := by decide +kernel
theorem dX12_pickBest_109 : decode cX12_pickBest 109 = .ok (.putfield 240, 3) := by decide +kernel
theorem dX12_pickBest_112 : decode cX12_pickBest 112 = .ok (.return_, 1) := by decide +kernel
theorem dX12_streetsOf_0 : decode cX12_streetsOf 0 = .ok (.iconst 0, 1) := by decide +kernel
theorem dX12_streetsOf_1 : decode cX12_streetsOf 1 = .ok (.istore_n 2, 1) := by decide +kernel
theorem dX12_streetsOf_2 : decode cX12_streetsOf 2 = .ok (.iconst 0, 1) := by decide +kernel
theorem dX12_streetsOf_3 : decode cX12_streetsOf 3 = .ok (.istore_n 3, 1) := by decide +kernel
theorem dX12_streetsOf_4 : decode cX12_streetsOf 4 = .ok (.iload_n 3, 1) := by decide +kernel
theorem dX12_streetsOf_5 : decode cX12_streetsOf 5 = .ok (.aload_n 0, 1) := by decide +kernel
theorem dX12_streetsOf_6 : decode cX12_streetsOf 6 = .ok (.getfield 250, 3) := by decide +kernel
theorem dX12_streetsOf_9 : decode cX12_streetsOf 9 = .ok (.if_icmp .ge 30, 3) := by decide +kernel
theorem dX12_streetsOf_12 : decode cX12_streetsOf 12 = .ok (.iload_n 2, 1) := by decide +kernel
theorem dX12_streetsOf_13 : decode cX12_streetsOf 13 = .ok (.iconst 1, 1) := by decide +kernel
theorem dX12_streetsOf_14 : decode cX12_streetsOf 14 = .ok (.aload_n 0, 1) := by decide +kernel
theorem dX12_streetsOf_15 : decode cX12_streetsOf 15 = .ok (.getfield 56, 3) := by decide +kernel
theorem dX12_streetsOf_18 : decode cX12_streetsOf 18 = .ok (.bipush 12, 2) := by decide +kernel
theorem dX12_streetsOf_20 : decode cX12_streetsOf 20 = .ok (.iload_n 1, 1) := by decide +kernel
theorem dX12_streetsOf_21 : decode cX12_streetsOf 21 = .ok (.imul, 1) := by decide +kernel
theorem dX12_streetsOf_22 : decode cX12_streetsOf 22 = .ok (.aload_n 0, 1) := by decide +kernel
theorem dX12_streetsOf_23 : decode cX12_streetsOf 23 = .ok (.getfield 121, 3) := by decide +kernel
theorem dX12_streetsOf_26 : decode cX12_streetsOf 26 = .ok (.iload_n 3, 1) := by decide +kernel
theorem dX12_streetsOf_27 : decode cX12_streetsOf 27 = .ok (.iaload, 1) := by decide +kernel
theorem dX12_streetsOf_28 : decode cX12_streetsOf 28 = .ok (.iadd, 1) := by decide +kernel
theorem dX12_streetsOf_29 : decode cX12_streetsOf 29 = .ok (.iaload, 1) := by decide +kernel
theorem dX12_streetsOf_30 : decode cX12_streetsOf 30 = .ok (.ishl, 1) := by decide +kernel
theorem dX12_streetsOf_31 : decode cX12_streetsOf 31 = .ok (.ior, 1) := by decide +kernel
theorem dX12_streetsOf_32 : decode cX12_streetsOf 32 = .ok (.istore_n 2, 1) := by decide +kernel
theorem dX12_streetsOf_33 : decode cX12_streetsOf 33 = .ok (.iinc 3 1, 3) := by decide +kernel
theorem dX12_streetsOf_36 : decode cX12_streetsOf 36 = .ok (.goto (-32), 3) := by decide +kernel
theorem dX12_streetsOf_39 : decode cX12_streetsOf 39 = .ok (.iconst 0, 1) := by decide +kernel
theorem dX12_streetsOf_40 : decode cX12_streetsOf 40 = .ok (.istore_n 3, 1) := by decide +kernel
theorem dX12_streetsOf_41 : decode cX12_streetsOf 41 = .ok (.iconst 0, 1) := by decide +kernel
theorem dX12_streetsOf_42 : decode cX12_streetsOf 42 = .ok (.istore 4, 2) := by decide +kernel
theorem dX12_streetsOf_44 : decode cX12_streetsOf 44 = .ok (.iload 4, 2) := by decide +kernel
theorem dX12_streetsOf_46 : decode cX12_streetsOf 46 = .ok (.bipush 6, 2) := by decide +kernel
theorem dX12_streetsOf_48 : decode cX12_streetsOf 48 = .ok (.if_icmp .ge 18, 3) := by decide +kernel
theorem dX12_streetsOf_51 : decode cX12_streetsOf 51 = .ok (.iload_n 3, 1) := by decide +kernel
theorem dX12_streetsOf_52 : decode cX12_streetsOf 52 = .ok (.iload_n 2, 1) := by decide +kernel
theorem dX12_streetsOf_53 : decode cX12_streetsOf 53 = .ok (.iload 4, 2) := by decide +kernel
theorem dX12_streetsOf_55 : decode cX12_streetsOf 55 = .ok (.ishr, 1) := by decide +kernel
theorem dX12_streetsOf_56 : decode cX12_streetsOf 56 = .ok (.iconst 1, 1) := by decide +kernel
theorem dX12_streetsOf_57 : decode cX12_streetsOf 57 = .ok (.iand, 1) := by decide +kernel
theorem dX12_streetsOf_58 : decode cX12_streetsOf 58 = .ok (.iadd, 1) := by decide +kernel
theorem dX12_streetsOf_59 : decode cX12_streetsOf 59 = .ok (.istore_n 3, 1) := by decide +kernel
theorem dX12_streetsOf_60 : decode cX12_streetsOf 60 = .ok (.iinc 4 1, 3) := by decide +kernel
theorem dX12_streetsOf_63 : decode cX12_streetsOf 63 = .ok (.goto (-19), 3) := by decide +kernel
theorem dX12_streetsOf_66 : decode cX12_streetsOf 66 = .ok (.iload_n 3, 1) := by decide +kernel
theorem dX12_streetsOf_67 : decode cX12_streetsOf 67 = .ok (.ireturn, 1) := by decide +kernel
theorem dX12_isChosen_0 : decode cX12_isChosen 0 = .ok (.iconst 0, 1) := by decide +kernel
theorem dX12_isChosen_1 : decode cX12_isChosen 1 = .ok (.istore_n 2, 1) := by decide +kernel
theorem dX12_isChosen_2 : decode cX12_isChosen 2 = .ok (.iload_n 2, 1) := by decide +kernel
theorem dX12_isChosen_3 : decode cX12_isChosen 3 = .ok (.aload_n 0, 1) := by decide +kernel
theorem dX12_isChosen_4 : decode cX12_isChosen 4 = .ok (.getfield 250, 3) := by decide +kernel
theorem dX12_isChosen_7 : decode cX12_isChosen 7 = .ok (.if_icmp .ge 21, 3) := by decide +kernel
theorem dX12_isChosen_10 : decode cX12_isChosen 10 = .ok (.aload_n 0, 1) := by decide +kernel
theorem dX12_isChosen_11 : decode cX12_isChosen 11 = .ok (.getfield 121, 3) := by decide +kernel
theorem dX12_isChosen_14 : decode cX12_isChosen 14 = .ok (.iload_n 2, 1) := by decide +kernel
theorem dX12_isChosen_15 : decode cX12_isChosen 15 = .ok (.iaload, 1) := by decide +kernel
theorem dX12_isChosen_16 : decode cX12_isChosen 16 = .ok (.iload_n 1, 1) := by decide +kernel
theorem dX12_isChosen_17 : decode cX12_isChosen 17 = .ok (.if_icmp .ne 5, 3) := by decide +kernel
theorem dX12_isChosen_20 : decode cX12_isChosen 20 = .ok (.iconst 1, 1) := by decide +kernel
theorem dX12_isChosen_21 : decode cX12_isChosen 21 = .ok (.ireturn, 1) := by decide +kernel
theorem dX12_isChosen_22 : decode cX12_isChosen 22 = .ok (.iinc 2 1, 3) := by decide +kernel
theorem dX12_isChosen_25 : decode cX12_isChosen 25 = .ok (.goto (-23), 3) := by decide +kernel
theorem dX12_isChosen_28 : decode cX12_isChosen 28 = .ok (.iconst 0, 1) := by decide +kernel
theorem dX12_isChosen_29 : decode cX12_isChosen 29 = .ok (.ireturn, 1) := by decide +kernel
theorem dX12_choose_0 : decode cX12_choose 0 = .ok (.aload_n 0, 1) := by decide +kernel
theorem dX12_choose_1 : decode cX12_choose 1 = .ok (.iload_n 1, 1) := by decide +kernel
theorem dX12_choose_2 : decode cX12_choose 2 = .ok (.iload_n 2, 1) := by decide +kernel
theorem dX12_choose_3 : decode cX12_choose 3 = .ok (.invokevirtual 253, 3) := by decide +kernel
theorem dX12_choose_6 : decode cX12_choose 6 = .ok (.aload_n 0, 1) := by decide +kernel
theorem dX12_choose_7 : decode cX12_choose 7 = .ok (.iconst 0, 1) := by decide +kernel
theorem dX12_choose_8 : decode cX12_choose 8 = .ok (.putfield 250, 3) := by decide +kernel
theorem dX12_choose_11 : decode cX12_choose 11 = .ok (.iconst 0, 1) := by decide +kernel
theorem dX12_choose_12 : decode cX12_choose 12 = .ok (.istore_n 3, 1) := by decide +kernel
theorem dX12_choose_13 : decode cX12_choose 13 = .ok (.iload_n 3, 1) := by decide +kernel
theorem dX12_choose_14 : decode cX12_choose 14 = .ok (.iconst 2, 1) := by decide +kernel
theorem dX12_choose_15 : decode cX12_choose 15 = .ok (.if_icmp .ge 143, 3) := by decide +kernel
theorem dX12_choose_18 : decode cX12_choose 18 = .ok (.iconst 0, 1) := by decide +kernel
theorem dX12_choose_19 : decode cX12_choose 19 = .ok (.istore 4, 2) := by decide +kernel
theorem dX12_choose_21 : decode cX12_choose 21 = .ok (.iload 4, 2) := by decide +kernel
theorem dX12_choose_23 : decode cX12_choose 23 = .ok (.aload_n 0, 1) := by decide +kernel
theorem dX12_choose_24 : decode cX12_choose 24 = .ok (.getfield 240, 3) := by decide +kernel
theorem dX12_choose_27 : decode cX12_choose 27 = .ok (.if_icmp .ge 125, 3) := by decide +kernel
theorem dX12_choose_30 : decode cX12_choose 30 = .ok (.aload_n 0, 1) := by decide +kernel
theorem dX12_choose_31 : decode cX12_choose 31 = .ok (.iload_n 1, 1) := by decide +kernel
theorem dX12_choose_32 : decode cX12_choose 32 = .ok (.invokevirtual 257, 3) := by decide +kernel
theorem dX12_choose_35 : decode cX12_choose 35 = .ok (.istore 5, 2) := by decide +kernel
theorem dX12_choose_37 : decode cX12_choose 37 = .ok (.aload_n 0, 1) := by decide +kernel
theorem dX12_choose_38 : decode cX12_choose 38 = .ok (.getfield 250, 3) := by decide +kernel
theorem dX12_choose_41 : decode cX12_choose 41 = .ok (.aload_n 0, 1) := by decide +kernel
theorem dX12_choose_42 : decode cX12_choose 42 = .ok (.getfield 38, 3) := by decide +kernel
theorem dX12_choose_45 : decode cX12_choose 45 = .ok (.iload_n 1, 1) := by decide +kernel
theorem dX12_choose_46 : decode cX12_choose 46 = .ok (.iaload, 1) := by decide +kernel
theorem dX12_choose_47 : decode cX12_choose 47 = .ok (.if_icmp .ge 37, 3) := by decide +kernel
theorem dX12_choose_50 : decode cX12_choose 50 = .ok (.aload_n 0, 1) := by decide +kernel
theorem dX12_choose_51 : decode cX12_choose 51 = .ok (.aload_n 0, 1) := by decide +kernel
theorem dX12_choose_52 : decode cX12_choose 52 = .ok (.getfield 118, 3) := by decide +kernel
theorem dX12_choose_55 : decode cX12_choose 55 = .ok (.iload 4, 2) := by decide +kernel
theorem dX12_choose_57 : decode cX12_choose 57 = .ok (.iaload, 1) := by decide +kernel
theorem dX12_choose_58 : decode cX12_choose 58 = .ok (.invokevirtual 260, 3) := by decide +kernel
theorem dX12_choose_61 : decode cX12_choose 61 = .ok (.ifCond .ne 23, 3) := by decide +kernel
theorem dX12_choose_64 : decode cX12_choose 64 = .ok (.iload_n 3, 1) := by decide +kernel
theorem dX12_choose_65 : decode cX12_choose 65 = .ok (.iconst 1, 1) := by decide +kernel
theorem dX12_choose_66 : decode cX12_choose 66 = .ok (.if_icmp .eq 14, 3) := by decide +kernel
theorem dX12_choose_69 : decode cX12_choose 69 = .ok (.iload 5, 2) := by decide +kernel
theorem dX12_choose_71 : decode cX12_choose 71 = .ok (.aload_n 0, 1) := by decide +kernel
theorem dX12_choose_72 : decode cX12_choose 72 = .ok (.getfield 41, 3) := by decide +kernel
theorem dX12_choose_75 : decode cX12_choose 75 = .ok (.iload_n 1, 1) := by decide +kernel
theorem dX12_choose_76 : decode cX12_choose 76 = .ok (.iaload, 1) := by decide +kernel
theorem dX12_choose_77 : decode cX12_choose 77 = .ok (.if_icmp .ge 7, 3) := by decide +kernel
theorem dX12_choose_80 : decode cX12_choose 80 = .ok (.iconst 1, 1) := by decide +kernel
theorem dX12_choose_81 : decode cX12_choose 81 = .ok (.goto 4, 3) := by decide +kernel
theorem dX12_choose_84 : decode cX12_choose 84 = .ok (.iconst 0, 1) := by decide +kernel
theorem dX12_choose_85 : decode cX12_choose 85 = .ok (.istore 6, 2) := by decide +kernel
theorem dX12_choose_87 : decode cX12_choose 87 = .ok (.iload 6, 2) := by decide +kernel
theorem dX12_choose_89 : decode cX12_choose 89 = .ok (.ifCond .eq 57, 3) := by decide +kernel
theorem dX12_choose_92 : decode cX12_choose 92 = .ok (.aload_n 0, 1) := by decide +kernel
theorem dX12_choose_93 : decode cX12_choose 93 = .ok (.getfield 121, 3) := by decide +kernel
theorem dX12_choose_96 : decode cX12_choose 96 = .ok (.aload_n 0, 1) := by decide +kernel
theorem dX12_choose_97 : decode cX12_choose 97 = .ok (.getfield 250, 3) := by decide +kernel
theorem dX12_choose_100 : decode cX12_choose 100 = .ok (.aload_n 0, 1) := by decide +kernel
theorem dX12_choose_101 : decode cX12_choose 101 = .ok (.getfield 118, 3) := by decide +kernel
theorem dX12_choose_104 : decode cX12_choose 104 = .ok (.iload 4, 2) := by decide +kernel
theorem dX12_choose_106 : decode cX12_choose 106 = .ok (.iaload, 1) := by decide +kernel
theorem dX12_choose_107 : decode cX12_choose 107 = .ok (.iastore, 1) := by decide +kernel
theorem dX12_choose_108 : decode cX12_choose 108 = .ok (.aload_n 0, 1) := by decide +kernel
theorem dX12_choose_109 : decode cX12_choose 109 = .ok (.dup, 1) := by decide +kernel
theorem dX12_choose_110 : decode cX12_choose 110 = .ok (.getfield 250, 3) := by decide +kernel
theorem dX12_choose_113 : decode cX12_choose 113 = .ok (.iconst 1, 1) := by decide +kernel
theorem dX12_choose_114 : decode cX12_choose 114 = .ok (.iadd, 1) := by decide +kernel
theorem dX12_choose_115 : decode cX12_choose 115 = .ok (.putfield 250, 3) := by decide +kernel
theorem dX12_choose_118 : decode cX12_choose 118 = .ok (.aload_n 0, 1) := by decide +kernel
theorem dX12_choose_119 : decode cX12_choose 119 = .ok (.dup, 1) := by decide +kernel
theorem dX12_choose_120 : decode cX12_choose 120 = .ok (.getfield 250, 3) := by decide +kernel
theorem dX12_choose_123 : decode cX12_choose 123 = .ok (.iload_n 3, 1) := by decide +kernel
theorem dX12_choose_124 : decode cX12_choose 124 = .ok (.ifCond .ne 17, 3) := by decide +kernel
theorem dX12_choose_127 : decode cX12_choose 127 = .ok (.aload_n 0, 1) := by decide +kernel
theorem dX12_choose_128 : decode cX12_choose 128 = .ok (.iload_n 1, 1) := by decide +kernel
theorem dX12_choose_129 : decode cX12_choose 129 = .ok (.invokevirtual 257, 3) := by decide +kernel
theorem dX12_choose_132 : decode cX12_choose 132 = .ok (.iload 5, 2) := by decide +kernel
theorem dX12_choose_134 : decode cX12_choose 134 = .ok (.if_icmp .ne 7, 3) := by decide +kernel
theorem dX12_choose_137 : decode cX12_choose 137 = .ok (.iconst 1, 1) := by decide +kernel
theorem dX12_choose_138 : decode cX12_choose 138 = .ok (.goto 4, 3) := by decide +kernel
theorem dX12_choose_141 : decode cX12_choose 141 = .ok (.iconst 0, 1) := by decide +kernel
theorem dX12_choose_142 : decode cX12_choose 142 = .ok (.isub, 1) := by decide +kernel
theorem dX12_choose_143 : decode cX12_choose 143 = .ok (.putfield 250, 3) := by decide +kernel
theorem dX12_choose_146 : decode cX12_choose 146 = .ok (.iinc 4 1, 3) := by decide +kernel
theorem dX12_choose_149 : decode cX12_choose 149 = .ok (.goto (-128), 3) := by decide +kernel
theorem dX12_choose_152 : decode cX12_choose 152 = .ok (.iinc 3 1, 3) := by decide +kernel
theorem dX12_choose_155 : decode cX12_choose 155 = .ok (.goto (-142), 3) := by decide +kernel
theorem dX12_choose_158 : decode cX12_choose 158 = .ok (.return_, 1) := by decide +kernel
theorem dX12_chooseName_0 : decode cX12_chooseName 0 = .ok (.aload_n 0, 1) := by decide +kernel
theorem dX12_chooseName_1 : decode cX12_chooseName 1 = .ok (.iload_n 1, 1) := by decide +kernel
theorem dX12_chooseName_2 : decode cX12_chooseName 2 = .ok (.aload_n 0, 1) := by decide +kernel
theorem dX12_chooseName_3 : decode cX12_chooseName 3 = .ok (.iload_n 2, 1) := by decide +kernel
theorem dX12_chooseName_4 : decode cX12_chooseName 4 = .ok (.aload_n 0, 1) := by decide +kernel
theorem dX12_chooseName_5 : decode cX12_chooseName 5 = .ok (.getfield 35, 3) := by decide +kernel
theorem dX12_chooseName_8 : decode cX12_chooseName 8 = .ok (.iload_n 1, 1) := by decide +kernel
theorem dX12_chooseName_9 : decode cX12_chooseName 9 = .ok (.iaload, 1) := by decide +kernel
theorem dX12_chooseName_10 : decode cX12_chooseName 10 = .ok (.invokevirtual 162, 3) := by decide +kernel
theorem dX12_chooseName_13 : decode cX12_chooseName 13 = .ok (.invokevirtual 263, 3) := by decide +kernel
theorem dX12_chooseName_16 : decode cX12_chooseName 16 = .ok (.return_, 1) := by decide +kernel
theorem dX12_bits_0 : decode cX12_bits 0 = .ok (.iconst 0, 1) := by decide +kernel
theorem dX12_bits_1 : decode cX12_bits 1 = .ok (.istore_n 1, 1) := by decide +kernel
theorem dX12_bits_2 : decode cX12_bits 2 = .ok (.iconst 0, 1) := by decide +kernel
theorem dX12_bits_3 : decode cX12_bits 3 = .ok (.istore_n 2, 1) := by decide +kernel
theorem dX12_bits_4 : decode cX12_bits 4 = .ok (.iload_n 2, 1) := by decide +kernel
theorem dX12_bits_5 : decode cX12_bits 5 = .ok (.aload_n 0, 1) := by decide +kernel
theorem dX12_bits_6 : decode cX12_bits 6 = .ok (.getfield 250, 3) := by decide +kernel
theorem dX12_bits_9 : decode cX12_bits 9 = .ok (.if_icmp .ge 20, 3) := by decide +kernel
theorem dX12_bits_12 : decode cX12_bits 12 = .ok (.iload_n 1, 1) := by decide +kernel
theorem dX12_bits_13 : decode cX12_bits 13 = .ok (.iconst 1, 1) := by decide +kernel
theorem dX12_bits_14 : decode cX12_bits 14 = .ok (.aload_n 0, 1) := by decide +kernel
theorem dX12_bits_15 : decode cX12_bits 15 = .ok (.getfield 121, 3) := by decide +kernel
theorem dX12_bits_18 : decode cX12_bits 18 = .ok (.iload_n 2, 1) := by decide +kernel
theorem dX12_bits_19 : decode cX12_bits 19 = .ok (.iaload, 1) := by decide +kernel
theorem dX12_bits_20 : decode cX12_bits 20 = .ok (.ishl, 1) := by decide +kernel
theorem dX12_bits_21 : decode cX12_bits 21 = .ok (.ior, 1) := by decide +kernel
theorem dX12_bits_22 : decode cX12_bits 22 = .ok (.istore_n 1, 1) := by decide +kernel
theorem dX12_bits_23 : decode cX12_bits 23 = .ok (.iinc 2 1, 3) := by decide +kernel
theorem dX12_bits_26 : decode cX12_bits 26 = .ok (.goto (-22), 3) := by decide +kernel
theorem dX12_bits_29 : decode cX12_bits 29 = .ok (.iload_n 1, 1) := by decide +kernel
theorem dX12_bits_30 : decode cX12_bits 30 = .ok (.ireturn, 1) := by decide +kernel
theorem dX12_seat_8 : decode cX12_seat 8 = .ok (.iload_n 2, 1) := by decide +kernel
theorem dX12_seat_9 : decode cX12_seat 9 = .ok (.iconst 0, 1) := by decide +kernel
theorem dX12_seat_10 : decode cX12_seat 10 = .ok (.sipush 999, 3) := by decide +kernel
theorem dX12_seat_13 : decode cX12_seat 13 = .ok (.invokestatic 136, 3) := by decide +kernel
theorem dX12_seat_16 : decode cX12_seat 16 = .ok (.ifCond .ne 7, 3) := by decide +kernel
theorem dX12_seat_23 : decode cX12_seat 23 = .ok (.aload_n 0, 1) := by decide +kernel
theorem dX12_seat_24 : decode cX12_seat 24 = .ok (.getfield 62, 3) := by decide +kernel
theorem dX12_seat_27 : decode cX12_seat 27 = .ok (.sipush 1000, 3) := by decide +kernel
theorem dX12_seat_30 : decode cX12_seat 30 = .ok (.iload_n 1, 1) := by decide +kernel
theorem dX12_seat_31 : decode cX12_seat 31 = .ok (.imul, 1) := by decide +kernel
theorem dX12_seat_32 : decode cX12_seat 32 = .ok (.iload_n 2, 1) := by decide +kernel
theorem dX12_seat_33 : decode cX12_seat 33 = .ok (.iadd, 1) := by decide +kernel
theorem dX12_seat_34 : decode cX12_seat 34 = .ok (.iaload, 1) := by decide +kernel
theorem dX12_seat_35 : decode cX12_seat 35 = .ok (.iconst (-1), 1) := by decide +kernel
theorem dX12_seat_36 : decode cX12_seat 36 = .ok (.if_icmp .ne 8, 3) := by decide +kernel
theorem dX12_seat_39 : decode cX12_seat 39 = .ok (.bipush (-2), 2) := by decide +kernel
theorem dX12_seat_41 : decode cX12_seat 41 = .ok (.goto 15, 3) := by decide +kernel
theorem dX12_seat_44 : decode cX12_seat 44 = .ok (.aload_n 0, 1) := by decide +kernel
theorem dX12_seat_45 : decode cX12_seat 45 = .ok (.getfield 62, 3) := by decide +kernel
theorem dX12_seat_48 : decode cX12_seat 48 = .ok (.sipush 1000, 3) := by decide +kernel
theorem dX12_seat_51 : decode cX12_seat 51 = .ok (.iload_n 1, 1) := by decide +kernel
theorem dX12_seat_52 : decode cX12_seat 52 = .ok (.imul, 1) := by decide +kernel
theorem dX12_seat_53 : decode cX12_seat 53 = .ok (.iload_n 2, 1) := by decide +kernel
theorem dX12_seat_54 : decode cX12_seat 54 = .ok (.iadd, 1) := by decide +kernel
theorem dX12_seat_55 : decode cX12_seat 55 = .ok (.iaload, 1) := by decide +kernel
theorem dX12_picked_8 : decode cX12_picked 8 = .ok (.iload_n 2, 1) := by decide +kernel
theorem dX12_picked_9 : decode cX12_picked 9 = .ok (.iconst 0, 1) := by decide +kernel
theorem dX12_picked_10 : decode cX12_picked 10 = .ok (.sipush 999, 3) := by decide +kernel
theorem dX12_picked_13 : decode cX12_picked 13 = .ok (.invokestatic 136, 3) := by decide +kernel
theorem dX12_picked_16 : decode cX12_picked 16 = .ok (.ifCond .ne 5, 3) := by decide +kernel
theorem dX12_picked_21 : decode cX12_picked 21 = .ok (.aload_n 0, 1) := by decide +kernel
theorem dX12_picked_22 : decode cX12_picked 22 = .ok (.iload_n 1, 1) := by decide +kernel
theorem dX12_picked_23 : decode cX12_picked 23 = .ok (.iload_n 2, 1) := by decide +kernel
theorem dX12_picked_24 : decode cX12_picked 24 = .ok (.invokevirtual 253, 3) := by decide +kernel
theorem dX12_picked_27 : decode cX12_picked 27 = .ok (.iload_n 3, 1) := by decide +kernel
theorem dX12_picked_28 : decode cX12_picked 28 = .ok (.iconst 0, 1) := by decide +kernel
theorem dX12_picked_29 : decode cX12_picked 29 = .ok (.aload_n 0, 1) := by decide +kernel
theorem dX12_picked_30 : decode cX12_picked 30 = .ok (.getfield 240, 3) := by decide +kernel
theorem dX12_picked_33 : decode cX12_picked 33 = .ok (.iconst 1, 1) := by decide +kernel
theorem dX12_picked_34 : decode cX12_picked 34 = .ok (.isub, 1) := by decide +kernel
theorem dX12_picked_35 : decode cX12_picked 35 = .ok (.invokestatic 136, 3) := by decide +kernel
theorem dX12_picked_38 : decode cX12_picked 38 = .ok (.ifCond .eq 12, 3) := by decide +kernel
theorem dX12_picked_41 : decode cX12_picked 41 = .ok (.aload_n 0, 1) := by decide +kernel
theorem dX12_picked_42 : decode cX12_picked 42 = .ok (.getfield 118, 3) := by decide +kernel
theorem dX12_picked_45 : decode cX12_picked 45 = .ok (.iload_n 3, 1) := by decide +kernel
theorem dX12_picked_46 : decode cX12_picked 46 = .ok (.iaload, 1) := by decide +kernel
theorem dX12_picked_47 : decode cX12_picked 47 = .ok (.goto 4, 3) := by decide +kernel
theorem dX12_picked_50 : decode cX12_picked 50 = .ok (.iconst (-1), 1) := by decide +kernel
theorem dX12_picked_51 : decode cX12_picked 51 = .ok (.ireturn, 1) := by decide +kernel
theorem dX12_keeperOf_8 : decode cX12_keeperOf 8 = .ok (.aload_n 0, 1) := by decide +kernel
theorem dX12_keeperOf_9 : decode cX12_keeperOf 9 = .ok (.iload_n 2, 1) := by decide +kernel
theorem dX12_keeperOf_10 : decode cX12_keeperOf 10 = .ok (.invokevirtual 158, 3) := by decide +kernel
theorem dX12_keeperOf_13 : decode cX12_keeperOf 13 = .ok (.ifCond .ne 5, 3) := by decide +kernel
theorem dX12_keeperOf_18 : decode cX12_keeperOf 18 = .ok (.aload_n 0, 1) := by decide +kernel
theorem dX12_keeperOf_19 : decode cX12_keeperOf 19 = .ok (.iload_n 1, 1) := by decide +kernel
theorem dX12_keeperOf_20 : decode cX12_keeperOf 20 = .ok (.iload_n 2, 1) := by decide +kernel
theorem dX12_keeperOf_21 : decode cX12_keeperOf 21 = .ok (.invokevirtual 269, 3) := by decide +kernel
theorem dX12_keeperOf_24 : decode cX12_keeperOf 24 = .ok (.iload_n 3, 1) := by decide +kernel
theorem dX12_keeperOf_25 : decode cX12_keeperOf 25 = .ok (.iconst (-1), 1) := by decide +kernel
theorem dX12_keeperOf_26 : decode cX12_keeperOf 26 = .ok (.if_icmp .ne 10, 3) := by decide +kernel
theorem dX12_keeperOf_29 : decode cX12_keeperOf 29 = .ok (.aload_n 0, 1) := by decide +kernel
theorem dX12_keeperOf_30 : decode cX12_keeperOf 30 = .ok (.getfield 250, 3) := by decide +kernel
theorem dX12_keeperOf_33 : decode cX12_keeperOf 33 = .ok (.goto 27, 3) := by decide +kernel
theorem dX12_keeperOf_36 : decode cX12_keeperOf 36 = .ok (.iload_n 3, 1) := by decide +kernel
theorem dX12_keeperOf_37 : decode cX12_keeperOf 37 = .ok (.iconst 0, 1) := by decide +kernel
theorem dX12_keeperOf_38 : decode cX12_keeperOf 38 = .ok (.aload_n 0, 1) := by decide +kernel
theorem dX12_keeperOf_39 : decode cX12_keeperOf 39 = .ok (.getfield 250, 3) := by decide +kernel
theorem dX12_keeperOf_42 : decode cX12_keeperOf 42 = .ok (.iconst 1, 1) := by decide +kernel
theorem dX12_keeperOf_43 : decode cX12_keeperOf 43 = .ok (.isub, 1) := by decide +kernel
theorem dX12_keeperOf_44 : decode cX12_keeperOf 44 = .ok (.invokestatic 136, 3) := by decide +kernel
theorem dX12_keeperOf_47 : decode cX12_keeperOf 47 = .ok (.ifCond .eq 12, 3) := by decide +kernel
theorem dX12_keeperOf_50 : decode cX12_keeperOf 50 = .ok (.aload_n 0, 1) := by decide +kernel
theorem dX12_keeperOf_51 : decode cX12_keeperOf 51 = .ok (.getfield 121, 3) := by decide +kernel
theorem dX12_keeperOf_54 : decode cX12_keeperOf 54 = .ok (.iload_n 3, 1) := by decide +kernel
theorem dX12_keeperOf_55 : decode cX12_keeperOf 55 = .ok (.iaload, 1) := by decide +kernel
theorem dX12_keeperOf_56 : decode cX12_keeperOf 56 = .ok (.goto 4, 3) := by decide +kernel
theorem dX12_keeperOf_59 : decode cX12_keeperOf 59 = .ok (.iconst (-1), 1) := by decide +kernel
theorem dX12_keeperOf_60 : decode cX12_keeperOf 60 = .ok (.ireturn, 1) := by decide +kernel
theorem dX12_tooFew_10 : decode cX12_tooFew 10 = .ok (.iconst 0, 1) := by decide +kernel
theorem dX12_tooFew_11 : decode cX12_tooFew 11 = .ok (.istore_n 2, 1) := by decide +kernel
theorem dX12_tooFew_12 : decode cX12_tooFew 12 = .ok (.iconst 0, 1) := by decide +kernel
theorem dX12_tooFew_13 : decode cX12_tooFew 13 = .ok (.istore_n 3, 1) := by decide +kernel
theorem dX12_tooFew_14 : decode cX12_tooFew 14 = .ok (.iload_n 3, 1) := by decide +kernel
theorem dX12_tooFew_15 : decode cX12_tooFew 15 = .ok (.aload_n 0, 1) := by decide +kernel
theorem dX12_tooFew_16 : decode cX12_tooFew 16 = .ok (.getfield 133, 3) := by decide +kernel
theorem dX12_tooFew_19 : decode cX12_tooFew 19 = .ok (.if_icmp .ge 37, 3) := by decide +kernel
theorem dX12_tooFew_22 : decode cX12_tooFew 22 = .ok (.aload_n 0, 1) := by decide +kernel
theorem dX12_tooFew_23 : decode cX12_tooFew 23 = .ok (.iload_n 1, 1) := by decide +kernel
theorem dX12_tooFew_24 : decode cX12_tooFew 24 = .ok (.iload_n 3, 1) := by decide +kernel
theorem dX12_tooFew_25 : decode cX12_tooFew 25 = .ok (.invokevirtual 269, 3) := by decide +kernel
theorem dX12_tooFew_28 : decode cX12_tooFew 28 = .ok (.iload_n 2, 1) := by decide +kernel
theorem dX12_tooFew_29 : decode cX12_tooFew 29 = .ok (.aload_n 0, 1) := by decide +kernel
theorem dX12_tooFew_30 : decode cX12_tooFew 30 = .ok (.iload_n 1, 1) := by decide +kernel
theorem dX12_tooFew_31 : decode cX12_tooFew 31 = .ok (.invokevirtual 257, 3) := by decide +kernel
theorem dX12_tooFew_34 : decode cX12_tooFew 34 = .ok (.aload_n 0, 1) := by decide +kernel
theorem dX12_tooFew_35 : decode cX12_tooFew 35 = .ok (.getfield 41, 3) := by decide +kernel
theorem dX12_tooFew_38 : decode cX12_tooFew 38 = .ok (.iload_n 1, 1) := by decide +kernel
theorem dX12_tooFew_39 : decode cX12_tooFew 39 = .ok (.iaload, 1) := by decide +kernel
theorem dX12_tooFew_40 : decode cX12_tooFew 40 = .ok (.if_icmp .ge 7, 3) := by decide +kernel
theorem dX12_tooFew_43 : decode cX12_tooFew 43 = .ok (.iconst 1, 1) := by decide +kernel
theorem dX12_tooFew_44 : decode cX12_tooFew 44 = .ok (.goto 4, 3) := by decide +kernel
theorem dX12_tooFew_47 : decode cX12_tooFew 47 = .ok (.iconst 0, 1) := by decide +kernel
theorem dX12_tooFew_48 : decode cX12_tooFew 48 = .ok (.iadd, 1) := by decide +kernel
theorem dX12_tooFew_49 : decode cX12_tooFew 49 = .ok (.istore_n 2, 1) := by decide +kernel
theorem dX12_tooFew_50 : decode cX12_tooFew 50 = .ok (.iinc 3 1, 3) := by decide +kernel
theorem dX12_tooFew_53 : decode cX12_tooFew 53 = .ok (.goto (-39), 3) := by decide +kernel
theorem dX12_tooFew_56 : decode cX12_tooFew 56 = .ok (.iload_n 2, 1) := by decide +kernel
theorem dX12_tooFew_57 : decode cX12_tooFew 57 = .ok (.ireturn, 1) := by decide +kernel
theorem dX12_shareOf_0 : decode cX12_shareOf 0 = .ok (.iconst 0, 1) := by decide +kernel
theorem dX12_shareOf_1 : decode cX12_shareOf 1 = .ok (.istore_n 3, 1) := by decide +kernel
theorem dX12_shareOf_2 : decode cX12_shareOf 2 = .ok (.iconst 0, 1) := by decide +kernel
theorem dX12_shareOf_3 : decode cX12_shareOf 3 = .ok (.istore 4, 2) := by decide +kernel
theorem dX12_shareOf_5 : decode cX12_shareOf 5 = .ok (.iload 4, 2) := by decide +kernel
theorem dX12_shareOf_7 : decode cX12_shareOf 7 = .ok (.aload_n 0, 1) := by decide +kernel
theorem dX12_shareOf_8 : decode cX12_shareOf 8 = .ok (.getfield 133, 3) := by decide +kernel
theorem dX12_shareOf_11 : decode cX12_shareOf 11 = .ok (.if_icmp .ge 44, 3) := by decide +kernel
theorem dX12_shareOf_14 : decode cX12_shareOf 14 = .ok (.aload_n 0, 1) := by decide +kernel
theorem dX12_shareOf_15 : decode cX12_shareOf 15 = .ok (.iload_n 1, 1) := by decide +kernel
theorem dX12_shareOf_16 : decode cX12_shareOf 16 = .ok (.aload_n 0, 1) := by decide +kernel
theorem dX12_shareOf_17 : decode cX12_shareOf 17 = .ok (.iload 4, 2) := by decide +kernel
theorem dX12_shareOf_19 : decode cX12_shareOf 19 = .ok (.aload_n 0, 1) := by decide +kernel
theorem dX12_shareOf_20 : decode cX12_shareOf 20 = .ok (.getfield 35, 3) := by decide +kernel
theorem dX12_shareOf_23 : decode cX12_shareOf 23 = .ok (.iload_n 1, 1) := by decide +kernel
theorem dX12_shareOf_24 : decode cX12_shareOf 24 = .ok (.iaload, 1) := by decide +kernel
theorem dX12_shareOf_25 : decode cX12_shareOf 25 = .ok (.invokevirtual 162, 3) := by decide +kernel
theorem dX12_shareOf_28 : decode cX12_shareOf 28 = .ok (.invokevirtual 253, 3) := by decide +kernel
theorem dX12_shareOf_31 : decode cX12_shareOf 31 = .ok (.iload_n 3, 1) := by decide +kernel
theorem dX12_shareOf_32 : decode cX12_shareOf 32 = .ok (.aload_n 0, 1) := by decide +kernel
theorem dX12_shareOf_33 : decode cX12_shareOf 33 = .ok (.getfield 118, 3) := by decide +kernel
theorem dX12_shareOf_36 : decode cX12_shareOf 36 = .ok (.iconst 0, 1) := by decide +kernel
theorem dX12_shareOf_37 : decode cX12_shareOf 37 = .ok (.iaload, 1) := by decide +kernel
theorem dX12_shareOf_38 : decode cX12_shareOf 38 = .ok (.iload_n 2, 1) := by decide +kernel
theorem dX12_shareOf_39 : decode cX12_shareOf 39 = .ok (.if_icmp .ne 7, 3) := by decide +kernel
theorem dX12_shareOf_42 : decode cX12_shareOf 42 = .ok (.iconst 1, 1) := by decide +kernel
theorem dX12_shareOf_43 : decode cX12_shareOf 43 = .ok (.goto 4, 3) := by decide +kernel
theorem dX12_shareOf_46 : decode cX12_shareOf 46 = .ok (.iconst 0, 1) := by decide +kernel
theorem dX12_shareOf_47 : decode cX12_shareOf 47 = .ok (.iadd, 1) := by decide +kernel
theorem dX12_shareOf_48 : decode cX12_shareOf 48 = .ok (.istore_n 3, 1) := by decide +kernel
theorem dX12_shareOf_49 : decode cX12_shareOf 49 = .ok (.iinc 4 1, 3) := by decide +kernel
theorem dX12_shareOf_52 : decode cX12_shareOf 52 = .ok (.goto (-47), 3) := by decide +kernel
theorem dX12_shareOf_55 : decode cX12_shareOf 55 = .ok (.iload_n 3, 1) := by decide +kernel
theorem dX12_shareOf_56 : decode cX12_shareOf 56 = .ok (.ireturn, 1) := by decide +kernel
theorem dX12_findOdds_0 : decode cX12_findOdds 0 = .ok (.iconst 0, 1) := by decide +kernel
theorem dX12_findOdds_1 : decode cX12_findOdds 1 = .ok (.istore_n 2, 1) := by decide +kernel
theorem dX12_findOdds_2 : decode cX12_findOdds 2 = .ok (.iload_n 2, 1) := by decide +kernel
theorem dX12_findOdds_3 : decode cX12_findOdds 3 = .ok (.bipush 12, 2) := by decide +kernel
theorem dX12_findOdds_5 : decode cX12_findOdds 5 = .ok (.if_icmp .ge 16, 3) := by decide +kernel
theorem dX12_findOdds_8 : decode cX12_findOdds 8 = .ok (.aload_n 0, 1) := by decide +kernel
theorem dX12_findOdds_9 : decode cX12_findOdds 9 = .ok (.getfield 124, 3) := by decide +kernel
theorem dX12_findOdds_12 : decode cX12_findOdds 12 = .ok (.iload_n 2, 1) := by decide +kernel
theorem dX12_findOdds_13 : decode cX12_findOdds 13 = .ok (.iconst 0, 1) := by decide +kernel
theorem dX12_findOdds_14 : decode cX12_findOdds 14 = .ok (.iastore, 1) := by decide +kernel
theorem dX12_findOdds_15 : decode cX12_findOdds 15 = .ok (.iinc 2 1, 3) := by decide +kernel
theorem dX12_findOdds_18 : decode cX12_findOdds 18 = .ok (.goto (-16), 3) := by decide +kernel
theorem dX12_findOdds_21 : decode cX12_findOdds 21 = .ok (.iconst 0, 1) := by decide +kernel
theorem dX12_findOdds_22 : decode cX12_findOdds 22 = .ok (.istore_n 2, 1) := by decide +kernel
theorem dX12_findOdds_23 : decode cX12_findOdds 23 = .ok (.iload_n 2, 1) := by decide +kernel
theorem dX12_findOdds_24 : decode cX12_findOdds 24 = .ok (.sipush 1000, 3) := by decide +kernel
theorem dX12_findOdds_27 : decode cX12_findOdds 27 = .ok (.if_icmp .ge 30, 3) := by decide +kernel
theorem dX12_findOdds_30 : decode cX12_findOdds 30 = .ok (.aload_n 0, 1) := by decide +kernel
theorem dX12_findOdds_31 : decode cX12_findOdds 31 = .ok (.iload_n 1, 1) := by decide +kernel
theorem dX12_findOdds_32 : decode cX12_findOdds 32 = .ok (.iload_n 2, 1) := by decide +kernel
theorem dX12_findOdds_33 : decode cX12_findOdds 33 = .ok (.invokevirtual 253, 3) := by decide +kernel
theorem dX12_findOdds_36 : decode cX12_findOdds 36 = .ok (.aload_n 0, 1) := by decide +kernel
theorem dX12_findOdds_37 : decode cX12_findOdds 37 = .ok (.getfield 124, 3) := by decide +kernel
theorem dX12_findOdds_40 : decode cX12_findOdds 40 = .ok (.aload_n 0, 1) := by decide +kernel
theorem dX12_findOdds_41 : decode cX12_findOdds 41 = .ok (.getfield 118, 3) := by decide +kernel
theorem dX12_findOdds_44 : decode cX12_findOdds 44 = .ok (.iconst 0, 1) := by decide +kernel
theorem dX12_findOdds_45 : decode cX12_findOdds 45 = .ok (.iaload, 1) := by decide +kernel
theorem dX12_findOdds_46 : decode cX12_findOdds 46 = .ok (.dup2, 1) := by decide +kernel
theorem dX12_findOdds_47 : decode cX12_findOdds 47 = .ok (.iaload, 1) := by decide +kernel
theorem dX12_findOdds_48 : decode cX12_findOdds 48 = .ok (.iconst 1, 1) := by decide +kernel
theorem dX12_findOdds_49 : decode cX12_findOdds 49 = .ok (.iadd, 1) := by decide +kernel
theorem dX12_findOdds_50 : decode cX12_findOdds 50 = .ok (.iastore, 1) := by decide +kernel
theorem dX12_findOdds_51 : decode cX12_findOdds 51 = .ok (.iinc 2 1, 3) := by decide +kernel
theorem dX12_findOdds_54 : decode cX12_findOdds 54 = .ok (.goto (-31), 3) := by decide +kernel
theorem dX12_findOdds_57 : decode cX12_findOdds 57 = .ok (.return_, 1) := by decide +kernel
theorem dX12_share_8 : decode cX12_share 8 = .ok (.aload_n 0, 1) := by decide +kernel
theorem dX12_share_9 : decode cX12_share 9 = .ok (.iload_n 2, 1) := by decide +kernel
theorem dX12_share_10 : decode cX12_share 10 = .ok (.invokevirtual 166, 3) := by decide +kernel
theorem dX12_share_13 : decode cX12_share 13 = .ok (.ifCond .eq 12, 3) := by decide +kernel
theorem dX12_share_16 : decode cX12_share 16 = .ok (.iload_n 3, 1) := by decide +kernel
theorem dX12_share_17 : decode cX12_share 17 = .ok (.iconst 0, 1) := by decide +kernel
theorem dX12_share_18 : decode cX12_share 18 = .ok (.iconst 1, 1) := by decide +kernel
theorem dX12_share_19 : decode cX12_share 19 = .ok (.invokestatic 136, 3) := by decide +kernel
theorem dX12_share_22 : decode cX12_share 22 = .ok (.ifCond .ne 5, 3) := by decide +kernel
theorem dX12_share_27 : decode cX12_share 27 = .ok (.iload_n 3, 1) := by decide +kernel
theorem dX12_share_28 : decode cX12_share 28 = .ok (.ifCond .ne 10, 3) := by decide +kernel
theorem dX12_share_31 : decode cX12_share 31 = .ok (.aload_n 0, 1) := by decide +kernel
theorem dX12_share_32 : decode cX12_share 32 = .ok (.iload_n 1, 1) := by decide +kernel
theorem dX12_share_33 : decode cX12_share 33 = .ok (.iload_n 2, 1) := by decide +kernel
theorem dX12_share_34 : decode cX12_share 34 = .ok (.invokevirtual 272, 3) := by decide +kernel
theorem dX12_share_37 : decode cX12_share 37 = .ok (.ireturn, 1) := by decide +kernel
theorem dX12_share_38 : decode cX12_share 38 = .ok (.aload_n 0, 1) := by decide +kernel
theorem dX12_share_39 : decode cX12_share 39 = .ok (.iload_n 1, 1) := by decide +kernel
theorem dX12_share_40 : decode cX12_share 40 = .ok (.invokevirtual 275, 3) := by decide +kernel
theorem dX12_share_43 : decode cX12_share 43 = .ok (.aload_n 0, 1) := by decide +kernel
theorem dX12_share_44 : decode cX12_share 44 = .ok (.getfield 124, 3) := by decide +kernel
theorem dX12_share_47 : decode cX12_share 47 = .ok (.iload_n 2, 1) := by decide +kernel
theorem dX12_share_48 : decode cX12_share 48 = .ok (.iaload, 1) := by decide +kernel
theorem dX12_share_49 : decode cX12_share 49 = .ok (.ireturn, 1) := by decide +kernel
theorem dX12_even_0 : decode cX12_even 0 = .ok (.aload_n 0, 1) := by decide +kernel
theorem dX12_even_1 : decode cX12_even 1 = .ok (.iload_n 1, 1) := by decide +kernel
theorem dX12_even_2 : decode cX12_even 2 = .ok (.invokevirtual 275, 3) := by decide +kernel
theorem dX12_even_5 : decode cX12_even 5 = .ok (.sipush 1000, 3) := by decide +kernel
theorem dX12_even_8 : decode cX12_even 8 = .ok (.istore_n 2, 1) := by decide +kernel
theorem dX12_even_9 : decode cX12_even 9 = .ok (.iconst 0, 1) := by decide +kernel
theorem dX12_even_10 : decode cX12_even 10 = .ok (.istore_n 3, 1) := by decide +kernel
theorem dX12_even_11 : decode cX12_even 11 = .ok (.iconst 0, 1) := by decide +kernel
theorem dX12_even_12 : decode cX12_even 12 = .ok (.istore 4, 2) := by decide +kernel
theorem dX12_even_14 : decode cX12_even 14 = .ok (.iload 4, 2) := by decide +kernel
theorem dX12_even_16 : decode cX12_even 16 = .ok (.aload_n 0, 1) := by decide +kernel
theorem dX12_even_17 : decode cX12_even 17 = .ok (.getfield 140, 3) := by decide +kernel
theorem dX12_even_20 : decode cX12_even 20 = .ok (.if_icmp .ge 65, 3) := by decide +kernel
theorem dX12_even_23 : decode cX12_even 23 = .ok (.aload_n 0, 1) := by decide +kernel
theorem dX12_even_24 : decode cX12_even 24 = .ok (.iload_n 1, 1) := by decide +kernel
theorem dX12_even_25 : decode cX12_even 25 = .ok (.iload 4, 2) := by decide +kernel
theorem dX12_even_27 : decode cX12_even 27 = .ok (.invokevirtual 223, 3) := by decide +kernel
theorem dX12_even_30 : decode cX12_even 30 = .ok (.ifCond .eq 49, 3) := by decide +kernel
theorem dX12_even_33 : decode cX12_even 33 = .ok (.aload_n 0, 1) := by decide +kernel
theorem dX12_even_34 : decode cX12_even 34 = .ok (.getfield 124, 3) := by decide +kernel
theorem dX12_even_37 : decode cX12_even 37 = .ok (.iload 4, 2) := by decide +kernel
theorem dX12_even_39 : decode cX12_even 39 = .ok (.iaload, 1) := by decide +kernel
theorem dX12_even_40 : decode cX12_even 40 = .ok (.iload_n 2, 1) := by decide +kernel
theorem dX12_even_41 : decode cX12_even 41 = .ok (.if_icmp .ge 13, 3) := by decide +kernel
theorem dX12_even_44 : decode cX12_even 44 = .ok (.aload_n 0, 1) := by decide +kernel
theorem dX12_even_45 : decode cX12_even 45 = .ok (.getfield 124, 3) := by decide +kernel
theorem dX12_even_48 : decode cX12_even 48 = .ok (.iload 4, 2) := by decide +kernel
theorem dX12_even_50 : decode cX12_even 50 = .ok (.iaload, 1) := by decide +kernel
theorem dX12_even_51 : decode cX12_even 51 = .ok (.goto 4, 3) := by decide +kernel
theorem dX12_even_54 : decode cX12_even 54 = .ok (.iload_n 2, 1) := by decide +kernel
theorem dX12_even_55 : decode cX12_even 55 = .ok (.istore_n 2, 1) := by decide +kernel
theorem dX12_even_56 : decode cX12_even 56 = .ok (.aload_n 0, 1) := by decide +kernel
theorem dX12_even_57 : decode cX12_even 57 = .ok (.getfield 124, 3) := by decide +kernel
theorem dX12_even_60 : decode cX12_even 60 = .ok (.iload 4, 2) := by decide +kernel
theorem dX12_even_62 : decode cX12_even 62 = .ok (.iaload, 1) := by decide +kernel
theorem dX12_even_63 : decode cX12_even 63 = .ok (.iload_n 3, 1) := by decide +kernel
theorem dX12_even_64 : decode cX12_even 64 = .ok (.if_icmp .le 13, 3) := by decide +kernel
theorem dX12_even_67 : decode cX12_even 67 = .ok (.aload_n 0, 1) := by decide +kernel
theorem dX12_even_68 : decode cX12_even 68 = .ok (.getfield 124, 3) := by decide +kernel
theorem dX12_even_71 : decode cX12_even 71 = .ok (.iload 4, 2) := by decide +kernel
theorem dX12_even_73 : decode cX12_even 73 = .ok (.iaload, 1) := by decide +kernel
theorem dX12_even_74 : decode cX12_even 74 = .ok (.goto 4, 3) := by decide +kernel
theorem dX12_even_77 : decode cX12_even 77 = .ok (.iload_n 3, 1) := by decide +kernel
theorem dX12_even_78 : decode cX12_even 78 = .ok (.istore_n 3, 1) := by decide +kernel
theorem dX12_even_79 : decode cX12_even 79 = .ok (.iinc 4 1, 3) := by decide +kernel
theorem dX12_even_82 : decode cX12_even 82 = .ok (.goto (-68), 3) := by decide +kernel
theorem dX12_even_85 : decode cX12_even 85 = .ok (.iload_n 3, 1) := by decide +kernel
theorem dX12_even_86 : decode cX12_even 86 = .ok (.iload_n 2, 1) := by decide +kernel
theorem dX12_even_87 : decode cX12_even 87 = .ok (.isub, 1) := by decide +kernel
theorem dX12_even_88 : decode cX12_even 88 = .ok (.ireturn, 1) := by decide +kernel
theorem dX12_ofTable_10 : decode cX12_ofTable 10 = .ok (.iload_n 2, 1) := by decide +kernel
theorem dX12_ofTable_11 : decode cX12_ofTable 11 = .ok (.tableswitch 78 0 5 #[37, 44, 51, 58, 65, 72], 37) := by decide +kernel
theorem dX12_ofTable_48 : decode cX12_ofTable 48 = .ok (.aload_n 0, 1) := by decide +kernel
theorem dX12_ofTable_49 : decode cX12_ofTable 49 = .ok (.getfield 32, 3) := by decide +kernel
theorem dX12_ofTable_52 : decode cX12_ofTable 52 = .ok (.iload_n 1, 1) := by decide +kernel
theorem dX12_ofTable_53 : decode cX12_ofTable 53 = .ok (.iaload, 1) := by decide +kernel
theorem dX12_ofTable_54 : decode cX12_ofTable 54 = .ok (.ireturn, 1) := by decide +kernel
theorem dX12_ofTable_55 : decode cX12_ofTable 55 = .ok (.aload_n 0, 1) := by decide +kernel
theorem dX12_ofTable_56 : decode cX12_ofTable 56 = .ok (.getfield 59, 3) := by decide +kernel
theorem dX12_ofTable_59 : decode cX12_ofTable 59 = .ok (.iload_n 1, 1) := by decide +kernel
theorem dX12_ofTable_60 : decode cX12_ofTable 60 = .ok (.iaload, 1) := by decide +kernel
theorem dX12_ofTable_61 : decode cX12_ofTable 61 = .ok (.ireturn, 1) := by decide +kernel
theorem dX12_ofTable_62 : decode cX12_ofTable 62 = .ok (.aload_n 0, 1) := by decide +kernel
theorem dX12_ofTable_63 : decode cX12_ofTable 63 = .ok (.getfield 38, 3) := by decide +kernel
theorem dX12_ofTable_66 : decode cX12_ofTable 66 = .ok (.iload_n 1, 1) := by decide +kernel
theorem dX12_ofTable_67 : decode cX12_ofTable 67 = .ok (.iaload, 1) := by decide +kernel
theorem dX12_ofTable_68 : decode cX12_ofTable 68 = .ok (.ireturn, 1) := by decide +kernel
theorem dX12_ofTable_69 : decode cX12_ofTable 69 = .ok (.aload_n 0, 1) := by decide +kernel
theorem dX12_ofTable_70 : decode cX12_ofTable 70 = .ok (.getfield 41, 3) := by decide +kernel
theorem dX12_ofTable_73 : decode cX12_ofTable 73 = .ok (.iload_n 1, 1) := by decide +kernel
theorem dX12_ofTable_74 : decode cX12_ofTable 74 = .ok (.iaload, 1) := by decide +kernel
theorem dX12_ofTable_75 : decode cX12_ofTable 75 = .ok (.ireturn, 1) := by decide +kernel
theorem dX12_ofTable_76 : decode cX12_ofTable 76 = .ok (.aload_n 0, 1) := by decide +kernel
theorem dX12_ofTable_77 : decode cX12_ofTable 77 = .ok (.getfield 44, 3) := by decide +kernel
theorem dX12_ofTable_80 : decode cX12_ofTable 80 = .ok (.iload_n 1, 1) := by decide +kernel
theorem dX12_ofTable_81 : decode cX12_ofTable 81 = .ok (.iaload, 1) := by decide +kernel
theorem dX12_ofTable_82 : decode cX12_ofTable 82 = .ok (.ireturn, 1) := by decide +kernel
theorem dX12_ofTable_83 : decode cX12_ofTable 83 = .ok (.aload_n 0, 1) := by decide +kernel
theorem dX12_ofTable_84 : decode cX12_ofTable 84 = .ok (.iload_n 1, 1) := by decide +kernel
theorem dX12_ofTable_85 : decode cX12_ofTable 85 = .ok (.invokevirtual 278, 3) := by decide +kernel
theorem dX12_ofTable_88 : decode cX12_ofTable 88 = .ok (.ireturn, 1) := by decide +kernel
theorem dX12_ofTable_89 : decode cX12_ofTable 89 = .ok (.iconst (-1), 1) := by decide +kernel
theorem dX12_ofTable_90 : decode cX12_ofTable 90 = .ok (.ireturn, 1) := by decide +kernel
theorem dX12_ones_0 : decode cX12_ones 0 = .ok (.iconst 0, 1) := by decide +kernel
theorem dX12_ones_1 : decode cX12_ones 1 = .ok (.istore_n 1, 1) := by decide +kernel
theorem dX12_ones_2 : decode cX12_ones 2 = .ok (.iconst 0, 1) := by decide +kernel
theorem dX12_ones_3 : decode cX12_ones 3 = .ok (.istore_n 2, 1) := by decide +kernel
theorem dX12_ones_4 : decode cX12_ones 4 = .ok (.iload_n 2, 1) := by decide +kernel
theorem dX12_ones_5 : decode cX12_ones 5 = .ok (.bipush 12, 2) := by decide +kernel
theorem dX12_ones_7 : decode cX12_ones 7 = .ok (.if_icmp .ge 17, 3) := by decide +kernel
theorem dX12_ones_10 : decode cX12_ones 10 = .ok (.iload_n 1, 1) := by decide +kernel
theorem dX12_ones_11 : decode cX12_ones 11 = .ok (.iload_n 0, 1) := by decide +kernel
theorem dX12_ones_12 : decode cX12_ones 12 = .ok (.iload_n 2, 1) := by decide +kernel
theorem dX12_ones_13 : decode cX12_ones 13 = .ok (.ishr, 1) := by decide +kernel
theorem dX12_ones_14 : decode cX12_ones 14 = .ok (.iconst 1, 1) := by decide +kernel
theorem dX12_ones_15 : decode cX12_ones 15 = .ok (.iand, 1) := by decide +kernel
theorem dX12_ones_16 : decode cX12_ones 16 = .ok (.iadd, 1) := by decide +kernel
theorem dX12_ones_17 : decode cX12_ones 17 = .ok (.istore_n 1, 1) := by decide +kernel
theorem dX12_ones_18 : decode cX12_ones 18 = .ok (.iinc 2 1, 3) := by decide +kernel
theorem dX12_ones_21 : decode cX12_ones 21 = .ok (.goto (-17), 3) := by decide +kernel
theorem dX12_ones_24 : decode cX12_ones 24 = .ok (.iload_n 1, 1) := by decide +kernel
theorem dX12_ones_25 : decode cX12_ones 25 = .ok (.ireturn, 1) := by decide +kernel
theorem dX12_moves_8 : decode cX12_moves 8 = .ok (.aload_n 0, 1) := by decide +kernel
theorem dX12_moves_9 : decode cX12_moves 9 = .ok (.iload_n 2, 1) := by decide +kernel
theorem dX12_moves_10 : decode cX12_moves 10 = .ok (.invokevirtual 266, 3) := by decide +kernel
theorem dX12_moves_13 : decode cX12_moves 13 = .ok (.ifCond .eq 12, 3) := by decide +kernel
theorem dX12_moves_16 : decode cX12_moves 16 = .ok (.iload_n 3, 1) := by decide +kernel
theorem dX12_moves_17 : decode cX12_moves 17 = .ok (.iconst 0, 1) := by decide +kernel
theorem dX12_moves_18 : decode cX12_moves 18 = .ok (.iconst 1, 1) := by decide +kernel
theorem dX12_moves_19 : decode cX12_moves 19 = .ok (.invokestatic 136, 3) := by decide +kernel
theorem dX12_moves_22 : decode cX12_moves 22 = .ok (.ifCond .ne 5, 3) := by decide +kernel
theorem dX12_moves_27 : decode cX12_moves 27 = .ok (.iconst 0, 1) := by decide +kernel
theorem dX12_moves_28 : decode cX12_moves 28 = .ok (.istore 4, 2) := by decide +kernel
theorem dX12_moves_30 : decode cX12_moves 30 = .ok (.iconst 0, 1) := by decide +kernel
theorem dX12_moves_31 : decode cX12_moves 31 = .ok (.istore 5, 2) := by decide +kernel
theorem dX12_moves_33 : decode cX12_moves 33 = .ok (.iload 5, 2) := by decide +kernel
theorem dX12_moves_35 : decode cX12_moves 35 = .ok (.aload_n 0, 1) := by decide +kernel
theorem dX12_moves_36 : decode cX12_moves 36 = .ok (.getfield 140, 3) := by decide +kernel
theorem dX12_moves_39 : decode cX12_moves 39 = .ok (.if_icmp .ge 69, 3) := by decide +kernel
theorem dX12_moves_42 : decode cX12_moves 42 = .ok (.iload 4, 2) := by decide +kernel
theorem dX12_moves_44 : decode cX12_moves 44 = .ok (.aload_n 0, 1) := by decide +kernel
theorem dX12_moves_45 : decode cX12_moves 45 = .ok (.iload_n 1, 1) := by decide +kernel
theorem dX12_moves_46 : decode cX12_moves 46 = .ok (.iload 5, 2) := by decide +kernel
theorem dX12_moves_48 : decode cX12_moves 48 = .ok (.invokevirtual 223, 3) := by decide +kernel
theorem dX12_moves_51 : decode cX12_moves 51 = .ok (.ifCond .eq 47, 3) := by decide +kernel
theorem dX12_moves_54 : decode cX12_moves 54 = .ok (.aload_n 0, 1) := by decide +kernel
theorem dX12_moves_55 : decode cX12_moves 55 = .ok (.iload_n 2, 1) := by decide +kernel
theorem dX12_moves_56 : decode cX12_moves 56 = .ok (.iload 5, 2) := by decide +kernel
theorem dX12_moves_58 : decode cX12_moves 58 = .ok (.invokevirtual 223, 3) := by decide +kernel
theorem dX12_moves_61 : decode cX12_moves 61 = .ok (.ifCond .eq 37, 3) := by decide +kernel
theorem dX12_moves_64 : decode cX12_moves 64 = .ok (.aload_n 0, 1) := by decide +kernel
theorem dX12_moves_65 : decode cX12_moves 65 = .ok (.getfield 53, 3) := by decide +kernel
theorem dX12_moves_68 : decode cX12_moves 68 = .ok (.bipush 12, 2) := by decide +kernel
theorem dX12_moves_70 : decode cX12_moves 70 = .ok (.iload_n 1, 1) := by decide +kernel
theorem dX12_moves_71 : decode cX12_moves 71 = .ok (.imul, 1) := by decide +kernel
theorem dX12_moves_72 : decode cX12_moves 72 = .ok (.iload 5, 2) := by decide +kernel
theorem dX12_moves_74 : decode cX12_moves 74 = .ok (.iadd, 1) := by decide +kernel
theorem dX12_moves_75 : decode cX12_moves 75 = .ok (.iaload, 1) := by decide +kernel
theorem dX12_moves_76 : decode cX12_moves 76 = .ok (.aload_n 0, 1) := by decide +kernel
theorem dX12_moves_77 : decode cX12_moves 77 = .ok (.getfield 53, 3) := by decide +kernel
theorem dX12_moves_80 : decode cX12_moves 80 = .ok (.bipush 12, 2) := by decide +kernel
theorem dX12_moves_82 : decode cX12_moves 82 = .ok (.iload_n 2, 1) := by decide +kernel
theorem dX12_moves_83 : decode cX12_moves 83 = .ok (.imul, 1) := by decide +kernel
theorem dX12_moves_84 : decode cX12_moves 84 = .ok (.iload 5, 2) := by decide +kernel
theorem dX12_moves_86 : decode cX12_moves 86 = .ok (.iadd, 1) := by decide +kernel
theorem dX12_moves_87 : decode cX12_moves 87 = .ok (.iaload, 1) := by decide +kernel
theorem dX12_moves_88 : decode cX12_moves 88 = .ok (.if_icmp .ne 10, 3) := by decide +kernel
theorem dX12_moves_91 : decode cX12_moves 91 = .ok (.iconst 1, 1) := by decide +kernel
theorem dX12_moves_92 : decode cX12_moves 92 = .ok (.iload 5, 2) := by decide +kernel
theorem dX12_moves_94 : decode cX12_moves 94 = .ok (.ishl, 1) := by decide +kernel
theorem dX12_moves_95 : decode cX12_moves 95 = .ok (.goto 4, 3) := by decide +kernel
theorem dX12_moves_98 : decode cX12_moves 98 = .ok (.iconst 0, 1) := by decide +kernel
theorem dX12_moves_99 : decode cX12_moves 99 = .ok (.ior, 1) := by decide +kernel
theorem dX12_moves_100 : decode cX12_moves 100 = .ok (.istore 4, 2) := by decide +kernel
theorem dX12_moves_102 : decode cX12_moves 102 = .ok (.iinc 5 1, 3) := by decide +kernel
theorem dX12_moves_105 : decode cX12_moves 105 = .ok (.goto (-72), 3) := by decide +kernel
theorem dX12_moves_108 : decode cX12_moves 108 = .ok (.iconst 0, 1) := by decide +kernel
theorem dX12_moves_109 : decode cX12_moves 109 = .ok (.istore 5, 2) := by decide +kernel
theorem dX12_moves_111 : decode cX12_moves 111 = .ok (.iconst 0, 1) := by decide +kernel
theorem dX12_moves_112 : decode cX12_moves 112 = .ok (.istore 6, 2) := by decide +kernel
theorem dX12_moves_114 : decode cX12_moves 114 = .ok (.iconst 0, 1) := by decide +kernel
theorem dX12_moves_115 : decode cX12_moves 115 = .ok (.istore 7, 2) := by decide +kernel
theorem dX12_moves_117 : decode cX12_moves 117 = .ok (.iload 7, 2) := by decide +kernel
theorem dX12_moves_119 : decode cX12_moves 119 = .ok (.aload_n 0, 1) := by decide +kernel
theorem dX12_moves_120 : decode cX12_moves 120 = .ok (.getfield 133, 3) := by decide +kernel
theorem dX12_moves_123 : decode cX12_moves 123 = .ok (.if_icmp .ge 77, 3) := by decide +kernel
theorem dX12_moves_126 : decode cX12_moves 126 = .ok (.aload_n 0, 1) := by decide +kernel
theorem dX12_moves_127 : decode cX12_moves 127 = .ok (.iload_n 1, 1) := by decide +kernel
theorem dX12_moves_128 : decode cX12_moves 128 = .ok (.iload 7, 2) := by decide +kernel
theorem dX12_moves_130 : decode cX12_moves 130 = .ok (.invokevirtual 269, 3) := by decide +kernel
theorem dX12_moves_133 : decode cX12_moves 133 = .ok (.aload_n 0, 1) := by decide +kernel
theorem dX12_moves_134 : decode cX12_moves 134 = .ok (.invokevirtual 281, 3) := by decide +kernel
theorem dX12_moves_137 : decode cX12_moves 137 = .ok (.istore 8, 2) := by decide +kernel
theorem dX12_moves_139 : decode cX12_moves 139 = .ok (.aload_n 0, 1) := by decide +kernel
theorem dX12_moves_140 : decode cX12_moves 140 = .ok (.iload_n 2, 1) := by decide +kernel
theorem dX12_moves_141 : decode cX12_moves 141 = .ok (.iload 7, 2) := by decide +kernel
theorem dX12_moves_143 : decode cX12_moves 143 = .ok (.invokevirtual 269, 3) := by decide +kernel
theorem dX12_moves_146 : decode cX12_moves 146 = .ok (.aload_n 0, 1) := by decide +kernel
theorem dX12_moves_147 : decode cX12_moves 147 = .ok (.invokevirtual 281, 3) := by decide +kernel
theorem dX12_moves_150 : decode cX12_moves 150 = .ok (.iload 8, 2) := by decide +kernel
theorem dX12_moves_152 : decode cX12_moves 152 = .ok (.iconst (-1), 1) := by decide +kernel
theorem dX12_moves_153 : decode cX12_moves 153 = .ok (.ixor, 1) := by decide +kernel
theorem dX12_moves_154 : decode cX12_moves 154 = .ok (.iand, 1) := by decide +kernel
theorem dX12_moves_155 : decode cX12_moves 155 = .ok (.istore 9, 2) := by decide +kernel
theorem dX12_moves_157 : decode cX12_moves 157 = .ok (.iload 5, 2) := by decide +kernel
theorem dX12_moves_159 : decode cX12_moves 159 = .ok (.iload 9, 2) := by decide +kernel
theorem dX12_moves_161 : decode cX12_moves 161 = .ok (.invokestatic 284, 3) := by decide +kernel
theorem dX12_moves_164 : decode cX12_moves 164 = .ok (.iadd, 1) := by decide +kernel
theorem dX12_moves_165 : decode cX12_moves 165 = .ok (.istore 5, 2) := by decide +kernel
theorem dX12_moves_167 : decode cX12_moves 167 = .ok (.iload 6, 2) := by decide +kernel
theorem dX12_moves_169 : decode cX12_moves 169 = .ok (.iload 8, 2) := by decide +kernel
theorem dX12_moves_171 : decode cX12_moves 171 = .ok (.iload 4, 2) := by decide +kernel
theorem dX12_moves_173 : decode cX12_moves 173 = .ok (.iconst (-1), 1) := by decide +kernel
theorem dX12_moves_174 : decode cX12_moves 174 = .ok (.ixor, 1) := by decide +kernel
theorem dX12_moves_175 : decode cX12_moves 175 = .ok (.iand, 1) := by decide +kernel
theorem dX12_moves_176 : decode cX12_moves 176 = .ok (.ifCond .ne 14, 3) := by decide +kernel
theorem dX12_moves_179 : decode cX12_moves 179 = .ok (.iload 9, 2) := by decide +kernel
theorem dX12_moves_181 : decode cX12_moves 181 = .ok (.iload 4, 2) := by decide +kernel
theorem dX12_moves_183 : decode cX12_moves 183 = .ok (.iand, 1) := by decide +kernel
theorem dX12_moves_184 : decode cX12_moves 184 = .ok (.invokestatic 284, 3) := by decide +kernel
theorem dX12_moves_187 : decode cX12_moves 187 = .ok (.goto 4, 3) := by decide +kernel
theorem dX12_moves_190 : decode cX12_moves 190 = .ok (.iconst 0, 1) := by decide +kernel
theorem dX12_moves_191 : decode cX12_moves 191 = .ok (.iadd, 1) := by decide +kernel
theorem dX12_moves_192 : decode cX12_moves 192 = .ok (.istore 6, 2) := by decide +kernel
theorem dX12_moves_194 : decode cX12_moves 194 = .ok (.iinc 7 1, 3) := by decide +kernel
theorem dX12_moves_197 : decode cX12_moves 197 = .ok (.goto (-80), 3) := by decide +kernel
theorem dX12_moves_200 : decode cX12_moves 200 = .ok (.iload_n 3, 1) := by decide +kernel
theorem dX12_moves_201 : decode cX12_moves 201 = .ok (.ifCond .ne 8, 3) := by decide +kernel
theorem dX12_moves_204 : decode cX12_moves 204 = .ok (.iload 5, 2) := by decide +kernel
theorem dX12_moves_206 : decode cX12_moves 206 = .ok (.goto 5, 3) := by decide +kernel
theorem dX12_moves_209 : decode cX12_moves 209 = .ok (.iload 6, 2) := by decide +kernel
theorem dX12_moves_211 : decode cX12_moves 211 = .ok (.ireturn, 1) := by decide +kernel
theorem dX12_knows_8 : decode cX12_knows 8 = .ok (.iload_n 2, 1) := by decide +kernel
theorem dX12_knows_9 : decode cX12_knows 9 = .ok (.iconst (-1), 1) := by decide +kernel
theorem dX12_knows_10 : decode cX12_knows 10 = .ok (.aload_n 0, 1) := by decide +kernel
theorem dX12_knows_11 : decode cX12_knows 11 = .ok (.getfield 143, 3) := by decide +kernel
theorem dX12_knows_14 : decode cX12_knows 14 = .ok (.iconst 1, 1) := by decide +kernel
theorem dX12_knows_15 : decode cX12_knows 15 = .ok (.isub, 1) := by decide +kernel
theorem dX12_knows_16 : decode cX12_knows 16 = .ok (.invokestatic 136, 3) := by decide +kernel
theorem dX12_knows_19 : decode cX12_knows 19 = .ok (.ifCond .ne 6, 3) := by decide +kernel
theorem dX12_knows_25 : decode cX12_knows 25 = .ok (.aload_n 0, 1) := by decide +kernel
theorem dX12_knows_26 : decode cX12_knows 26 = .ok (.getfield 25, 3) := by decide +kernel
theorem dX12_knows_29 : decode cX12_knows 29 = .ok (.iload_n 1, 1) := by decide +kernel
theorem dX12_knows_30 : decode cX12_knows 30 = .ok (.iaload, 1) := by decide +kernel
theorem dX12_knows_31 : decode cX12_knows 31 = .ok (.istore_n 3, 1) := by decide +kernel
theorem dX12_knows_32 : decode cX12_knows 32 = .ok (.aload_n 0, 1) := by decide +kernel
theorem dX12_knows_33 : decode cX12_knows 33 = .ok (.getfield 25, 3) := by decide +kernel
theorem dX12_knows_36 : decode cX12_knows 36 = .ok (.iload_n 1, 1) := by decide +kernel
theorem dX12_knows_37 : decode cX12_knows 37 = .ok (.iload_n 2, 1) := by decide +kernel
theorem dX12_knows_38 : decode cX12_knows 38 = .ok (.iastore, 1) := by decide +kernel
theorem dX12_knows_39 : decode cX12_knows 39 = .ok (.iload_n 3, 1) := by decide +kernel
end
section
theorem dX12_knows_40 : decode cX12_knows 40 = .ok (.ireturn, 1) := by decide +kernel
theorem dX12_isAwake_0 : decode cX12_isAwake 0 = .ok (.aload_n 0, 1) := by decide +kernel
theorem dX12_isAwake_1 : decode cX12_isAwake 1 = .ok (.getfield 22, 3) := by decide +kernel
theorem dX12_isAwake_4 : decode cX12_isAwake 4 = .ok (.iload_n 1, 1) := by decide +kernel
theorem dX12_isAwake_5 : decode cX12_isAwake 5 = .ok (.iaload, 1) := by decide +kernel
theorem dX12_isAwake_6 : decode cX12_isAwake 6 = .ok (.iconst 4, 1) := by decide +kernel
theorem dX12_isAwake_7 : decode cX12_isAwake 7 = .ok (.if_icmp .eq 16, 3) := by decide +kernel
theorem dX12_isAwake_10 : decode cX12_isAwake 10 = .ok (.aload_n 0, 1) := by decide +kernel
theorem dX12_isAwake_11 : decode cX12_isAwake 11 = .ok (.getfield 28, 3) := by decide +kernel
theorem dX12_isAwake_14 : decode cX12_isAwake 14 = .ok (.iload_n 1, 1) := by decide +kernel
theorem dX12_isAwake_15 : decode cX12_isAwake 15 = .ok (.baload, 1) := by decide +kernel
theorem dX12_isAwake_16 : decode cX12_isAwake 16 = .ok (.ifCond .ne 7, 3) := by decide +kernel
theorem dX12_isAwake_19 : decode cX12_isAwake 19 = .ok (.iconst 1, 1) := by decide +kernel
theorem dX12_isAwake_20 : decode cX12_isAwake 20 = .ok (.goto 4, 3) := by decide +kernel
theorem dX12_isAwake_23 : decode cX12_isAwake 23 = .ok (.iconst 0, 1) := by decide +kernel
theorem dX12_isAwake_24 : decode cX12_isAwake 24 = .ok (.ireturn, 1) := by decide +kernel
theorem dX12_hasRoom_0 : decode cX12_hasRoom 0 = .ok (.aload_n 0, 1) := by decide +kernel
theorem dX12_hasRoom_1 : decode cX12_hasRoom 1 = .ok (.getfield 22, 3) := by decide +kernel
theorem dX12_hasRoom_4 : decode cX12_hasRoom 4 = .ok (.iload_n 1, 1) := by decide +kernel
theorem dX12_hasRoom_5 : decode cX12_hasRoom 5 = .ok (.iaload, 1) := by decide +kernel
theorem dX12_hasRoom_6 : decode cX12_hasRoom 6 = .ok (.bipush 6, 2) := by decide +kernel
theorem dX12_hasRoom_8 : decode cX12_hasRoom 8 = .ok (.if_icmp .ne 28, 3) := by decide +kernel
theorem dX12_hasRoom_11 : decode cX12_hasRoom 11 = .ok (.aload_n 0, 1) := by decide +kernel
theorem dX12_hasRoom_12 : decode cX12_hasRoom 12 = .ok (.getfield 68, 3) := by decide +kernel
theorem dX12_hasRoom_15 : decode cX12_hasRoom 15 = .ok (.bipush 40, 2) := by decide +kernel
theorem dX12_hasRoom_17 : decode cX12_hasRoom 17 = .ok (.iload_n 1, 1) := by decide +kernel
theorem dX12_hasRoom_18 : decode cX12_hasRoom 18 = .ok (.imul, 1) := by decide +kernel
theorem dX12_hasRoom_19 : decode cX12_hasRoom 19 = .ok (.iload_n 2, 1) := by decide +kernel
theorem dX12_hasRoom_20 : decode cX12_hasRoom 20 = .ok (.iadd, 1) := by decide +kernel
theorem dX12_hasRoom_21 : decode cX12_hasRoom 21 = .ok (.iaload, 1) := by decide +kernel
theorem dX12_hasRoom_22 : decode cX12_hasRoom 22 = .ok (.ifCond .gt 14, 3) := by decide +kernel
theorem dX12_hasRoom_25 : decode cX12_hasRoom 25 = .ok (.aload_n 0, 1) := by decide +kernel
theorem dX12_hasRoom_26 : decode cX12_hasRoom 26 = .ok (.iload_n 1, 1) := by decide +kernel
theorem dX12_hasRoom_27 : decode cX12_hasRoom 27 = .ok (.iconst 1, 1) := by decide +kernel
theorem dX12_hasRoom_28 : decode cX12_hasRoom 28 = .ok (.invokevirtual 173, 3) := by decide +kernel
theorem dX12_hasRoom_31 : decode cX12_hasRoom 31 = .ok (.bipush 8, 2) := by decide +kernel
theorem dX12_hasRoom_33 : decode cX12_hasRoom 33 = .ok (.if_icmp .ge 7, 3) := by decide +kernel
theorem dX12_hasRoom_36 : decode cX12_hasRoom 36 = .ok (.iconst 1, 1) := by decide +kernel
theorem dX12_hasRoom_37 : decode cX12_hasRoom 37 = .ok (.goto 4, 3) := by decide +kernel
theorem dX12_hasRoom_40 : decode cX12_hasRoom 40 = .ok (.iconst 0, 1) := by decide +kernel
theorem dX12_hasRoom_41 : decode cX12_hasRoom 41 = .ok (.ireturn, 1) := by decide +kernel
theorem dX12_keeps_0 : decode cX12_keeps 0 = .ok (.iconst 0, 1) := by decide +kernel
theorem dX12_keeps_1 : decode cX12_keeps 1 = .ok (.istore 5, 2) := by decide +kernel
theorem dX12_keeps_3 : decode cX12_keeps 3 = .ok (.iload 5, 2) := by decide +kernel
theorem dX12_keeps_5 : decode cX12_keeps 5 = .ok (.aload_n 0, 1) := by decide +kernel
theorem dX12_keeps_6 : decode cX12_keeps 6 = .ok (.getfield 240, 3) := by decide +kernel
theorem dX12_keeps_9 : decode cX12_keeps 9 = .ok (.if_icmp .ge 87, 3) := by decide +kernel
theorem dX12_keeps_12 : decode cX12_keeps 12 = .ok (.aload_n 0, 1) := by decide +kernel
theorem dX12_keeps_13 : decode cX12_keeps 13 = .ok (.getfield 118, 3) := by decide +kernel
theorem dX12_keeps_16 : decode cX12_keeps 16 = .ok (.iload 5, 2) := by decide +kernel
theorem dX12_keeps_18 : decode cX12_keeps 18 = .ok (.iaload, 1) := by decide +kernel
theorem dX12_keeps_19 : decode cX12_keeps 19 = .ok (.istore 6, 2) := by decide +kernel
theorem dX12_keeps_21 : decode cX12_keeps 21 = .ok (.bipush 40, 2) := by decide +kernel
theorem dX12_keeps_23 : decode cX12_keeps 23 = .ok (.iload 6, 2) := by decide +kernel
theorem dX12_keeps_25 : decode cX12_keeps 25 = .ok (.imul, 1) := by decide +kernel
theorem dX12_keeps_26 : decode cX12_keeps 26 = .ok (.iload_n 1, 1) := by decide +kernel
theorem dX12_keeps_27 : decode cX12_keeps 27 = .ok (.iadd, 1) := by decide +kernel
theorem dX12_keeps_28 : decode cX12_keeps 28 = .ok (.istore 7, 2) := by decide +kernel
theorem dX12_keeps_30 : decode cX12_keeps 30 = .ok (.iload_n 3, 1) := by decide +kernel
theorem dX12_keeps_31 : decode cX12_keeps 31 = .ok (.iload 6, 2) := by decide +kernel
theorem dX12_keeps_33 : decode cX12_keeps 33 = .ok (.ishr, 1) := by decide +kernel
theorem dX12_keeps_34 : decode cX12_keeps 34 = .ok (.iconst 1, 1) := by decide +kernel
theorem dX12_keeps_35 : decode cX12_keeps 35 = .ok (.iand, 1) := by decide +kernel
theorem dX12_keeps_36 : decode cX12_keeps 36 = .ok (.ifCond .ne 54, 3) := by decide +kernel
theorem dX12_keeps_39 : decode cX12_keeps 39 = .ok (.aload_n 0, 1) := by decide +kernel
theorem dX12_keeps_40 : decode cX12_keeps 40 = .ok (.iload 6, 2) := by decide +kernel
theorem dX12_keeps_42 : decode cX12_keeps 42 = .ok (.invokevirtual 287, 3) := by decide +kernel
theorem dX12_keeps_45 : decode cX12_keeps 45 = .ok (.ifCond .eq 45, 3) := by decide +kernel
theorem dX12_keeps_48 : decode cX12_keeps 48 = .ok (.aload_n 0, 1) := by decide +kernel
theorem dX12_keeps_49 : decode cX12_keeps 49 = .ok (.getfield 74, 3) := by decide +kernel
theorem dX12_keeps_52 : decode cX12_keeps 52 = .ok (.iload 7, 2) := by decide +kernel
theorem dX12_keeps_54 : decode cX12_keeps 54 = .ok (.iaload, 1) := by decide +kernel
theorem dX12_keeps_55 : decode cX12_keeps 55 = .ok (.bipush (-2), 2) := by decide +kernel
theorem dX12_keeps_57 : decode cX12_keeps 57 = .ok (.if_icmp .eq 14, 3) := by decide +kernel
theorem dX12_keeps_60 : decode cX12_keeps 60 = .ok (.aload_n 0, 1) := by decide +kernel
theorem dX12_keeps_61 : decode cX12_keeps 61 = .ok (.getfield 74, 3) := by decide +kernel
theorem dX12_keeps_64 : decode cX12_keeps 64 = .ok (.iload 7, 2) := by decide +kernel
theorem dX12_keeps_66 : decode cX12_keeps 66 = .ok (.iaload, 1) := by decide +kernel
theorem dX12_keeps_67 : decode cX12_keeps 67 = .ok (.iload_n 2, 1) := by decide +kernel
theorem dX12_keeps_68 : decode cX12_keeps 68 = .ok (.if_icmp .ne 22, 3) := by decide +kernel
theorem dX12_keeps_71 : decode cX12_keeps 71 = .ok (.aload_n 0, 1) := by decide +kernel
theorem dX12_keeps_72 : decode cX12_keeps 72 = .ok (.getfield 71, 3) := by decide +kernel
theorem dX12_keeps_75 : decode cX12_keeps 75 = .ok (.iload 7, 2) := by decide +kernel
theorem dX12_keeps_77 : decode cX12_keeps 77 = .ok (.iload 4, 2) := by decide +kernel
theorem dX12_keeps_79 : decode cX12_keeps 79 = .ok (.iastore, 1) := by decide +kernel
theorem dX12_keeps_80 : decode cX12_keeps 80 = .ok (.aload_n 0, 1) := by decide +kernel
theorem dX12_keeps_81 : decode cX12_keeps 81 = .ok (.getfield 74, 3) := by decide +kernel
theorem dX12_keeps_84 : decode cX12_keeps 84 = .ok (.iload 7, 2) := by decide +kernel
theorem dX12_keeps_86 : decode cX12_keeps 86 = .ok (.iload_n 2, 1) := by decide +kernel
theorem dX12_keeps_87 : decode cX12_keeps 87 = .ok (.iastore, 1) := by decide +kernel
theorem dX12_keeps_88 : decode cX12_keeps 88 = .ok (.iconst 1, 1) := by decide +kernel
theorem dX12_keeps_89 : decode cX12_keeps 89 = .ok (.ireturn, 1) := by decide +kernel
theorem dX12_keeps_90 : decode cX12_keeps 90 = .ok (.iinc 5 1, 3) := by decide +kernel
theorem dX12_keeps_93 : decode cX12_keeps 93 = .ok (.goto (-90), 3) := by decide +kernel
theorem dX12_keeps_96 : decode cX12_keeps 96 = .ok (.iconst 0, 1) := by decide +kernel
theorem dX12_keeps_97 : decode cX12_keeps 97 = .ok (.ireturn, 1) := by decide +kernel
theorem dX12_write_8 : decode cX12_write 8 = .ok (.aload_n 0, 1) := by decide +kernel
theorem dX12_write_9 : decode cX12_write 9 = .ok (.iload_n 2, 1) := by decide +kernel
theorem dX12_write_10 : decode cX12_write 10 = .ok (.invokevirtual 158, 3) := by decide +kernel
theorem dX12_write_13 : decode cX12_write 13 = .ok (.ifCond .ne 5, 3) := by decide +kernel
theorem dX12_write_18 : decode cX12_write 18 = .ok (.aload_n 0, 1) := by decide +kernel
theorem dX12_write_19 : decode cX12_write 19 = .ok (.getfield 25, 3) := by decide +kernel
theorem dX12_write_22 : decode cX12_write 22 = .ok (.iload_n 1, 1) := by decide +kernel
theorem dX12_write_23 : decode cX12_write 23 = .ok (.iaload, 1) := by decide +kernel
theorem dX12_write_24 : decode cX12_write 24 = .ok (.ifCond .lt 11, 3) := by decide +kernel
theorem dX12_write_27 : decode cX12_write 27 = .ok (.aload_n 0, 1) := by decide +kernel
theorem dX12_write_28 : decode cX12_write 28 = .ok (.iload_n 1, 1) := by decide +kernel
theorem dX12_write_29 : decode cX12_write 29 = .ok (.invokevirtual 287, 3) := by decide +kernel
theorem dX12_write_32 : decode cX12_write 32 = .ok (.ifCond .ne 6, 3) := by decide +kernel
theorem dX12_write_35 : decode cX12_write 35 = .ok (.bipush (-5), 2) := by decide +kernel
theorem dX12_write_37 : decode cX12_write 37 = .ok (.ireturn, 1) := by decide +kernel
theorem dX12_write_38 : decode cX12_write 38 = .ok (.aload_n 0, 1) := by decide +kernel
theorem dX12_write_39 : decode cX12_write 39 = .ok (.getfield 83, 3) := by decide +kernel
theorem dX12_write_42 : decode cX12_write 42 = .ok (.iload_n 2, 1) := by decide +kernel
theorem dX12_write_43 : decode cX12_write 43 = .ok (.dup2, 1) := by decide +kernel
theorem dX12_write_44 : decode cX12_write 44 = .ok (.iaload, 1) := by decide +kernel
theorem dX12_write_45 : decode cX12_write 45 = .ok (.iconst 1, 1) := by decide +kernel
theorem dX12_write_46 : decode cX12_write 46 = .ok (.iadd, 1) := by decide +kernel
theorem dX12_write_47 : decode cX12_write 47 = .ok (.iastore, 1) := by decide +kernel
theorem dX12_write_48 : decode cX12_write 48 = .ok (.aload_n 0, 1) := by decide +kernel
theorem dX12_write_49 : decode cX12_write 49 = .ok (.dup, 1) := by decide +kernel
theorem dX12_write_50 : decode cX12_write 50 = .ok (.getfield 290, 3) := by decide +kernel
theorem dX12_write_53 : decode cX12_write 53 = .ok (.iconst 1, 1) := by decide +kernel
theorem dX12_write_54 : decode cX12_write 54 = .ok (.iadd, 1) := by decide +kernel
theorem dX12_write_55 : decode cX12_write 55 = .ok (.putfield 290, 3) := by decide +kernel
theorem dX12_write_58 : decode cX12_write 58 = .ok (.aload_n 0, 1) := by decide +kernel
theorem dX12_write_59 : decode cX12_write 59 = .ok (.aload_n 0, 1) := by decide +kernel
theorem dX12_write_60 : decode cX12_write 60 = .ok (.getfield 25, 3) := by decide +kernel
theorem dX12_write_63 : decode cX12_write 63 = .ok (.iload_n 1, 1) := by decide +kernel
theorem dX12_write_64 : decode cX12_write 64 = .ok (.iaload, 1) := by decide +kernel
theorem dX12_write_65 : decode cX12_write 65 = .ok (.iload_n 2, 1) := by decide +kernel
theorem dX12_write_66 : decode cX12_write 66 = .ok (.invokevirtual 269, 3) := by decide +kernel
theorem dX12_write_69 : decode cX12_write 69 = .ok (.aload_n 0, 1) := by decide +kernel
theorem dX12_write_70 : decode cX12_write 70 = .ok (.invokevirtual 281, 3) := by decide +kernel
theorem dX12_write_73 : decode cX12_write 73 = .ok (.istore_n 3, 1) := by decide +kernel
theorem dX12_write_74 : decode cX12_write 74 = .ok (.iconst 0, 1) := by decide +kernel
theorem dX12_write_75 : decode cX12_write 75 = .ok (.istore 4, 2) := by decide +kernel
theorem dX12_write_77 : decode cX12_write 77 = .ok (.iconst 0, 1) := by decide +kernel
theorem dX12_write_78 : decode cX12_write 78 = .ok (.istore 5, 2) := by decide +kernel
theorem dX12_write_80 : decode cX12_write 80 = .ok (.iload 5, 2) := by decide +kernel
theorem dX12_write_82 : decode cX12_write 82 = .ok (.aload_n 0, 1) := by decide +kernel
theorem dX12_write_83 : decode cX12_write 83 = .ok (.getfield 250, 3) := by decide +kernel
theorem dX12_write_86 : decode cX12_write 86 = .ok (.if_icmp .ge 95, 3) := by decide +kernel
theorem dX12_write_89 : decode cX12_write 89 = .ok (.aload_n 0, 1) := by decide +kernel
theorem dX12_write_90 : decode cX12_write 90 = .ok (.getfield 121, 3) := by decide +kernel
theorem dX12_write_93 : decode cX12_write 93 = .ok (.iload 5, 2) := by decide +kernel
theorem dX12_write_95 : decode cX12_write 95 = .ok (.iaload, 1) := by decide +kernel
theorem dX12_write_96 : decode cX12_write 96 = .ok (.istore 6, 2) := by decide +kernel
theorem dX12_write_98 : decode cX12_write 98 = .ok (.aload_n 0, 1) := by decide +kernel
theorem dX12_write_99 : decode cX12_write 99 = .ok (.getfield 28, 3) := by decide +kernel
theorem dX12_write_102 : decode cX12_write 102 = .ok (.iload 6, 2) := by decide +kernel
theorem dX12_write_104 : decode cX12_write 104 = .ok (.baload, 1) := by decide +kernel
theorem dX12_write_105 : decode cX12_write 105 = .ok (.ifCond .eq 6, 3) := by decide +kernel
theorem dX12_write_108 : decode cX12_write 108 = .ok (.goto 67, 3) := by decide +kernel
theorem dX12_write_111 : decode cX12_write 111 = .ok (.aload_n 0, 1) := by decide +kernel
theorem dX12_write_112 : decode cX12_write 112 = .ok (.getfield 22, 3) := by decide +kernel
theorem dX12_write_115 : decode cX12_write 115 = .ok (.iload 6, 2) := by decide +kernel
theorem dX12_write_117 : decode cX12_write 117 = .ok (.iaload, 1) := by decide +kernel
theorem dX12_write_118 : decode cX12_write 118 = .ok (.iconst 4, 1) := by decide +kernel
theorem dX12_write_119 : decode cX12_write 119 = .ok (.if_icmp .ne 25, 3) := by decide +kernel
theorem dX12_write_122 : decode cX12_write 122 = .ok (.iload 4, 2) := by decide +kernel
theorem dX12_write_124 : decode cX12_write 124 = .ok (.aload_n 0, 1) := by decide +kernel
theorem dX12_write_125 : decode cX12_write 125 = .ok (.iload_n 2, 1) := by decide +kernel
theorem dX12_write_126 : decode cX12_write 126 = .ok (.iload 6, 2) := by decide +kernel
theorem dX12_write_128 : decode cX12_write 128 = .ok (.iload_n 3, 1) := by decide +kernel
theorem dX12_write_129 : decode cX12_write 129 = .ok (.aload_n 0, 1) := by decide +kernel
theorem dX12_write_130 : decode cX12_write 130 = .ok (.getfield 83, 3) := by decide +kernel
theorem dX12_write_133 : decode cX12_write 133 = .ok (.iload_n 2, 1) := by decide +kernel
theorem dX12_write_134 : decode cX12_write 134 = .ok (.iaload, 1) := by decide +kernel
theorem dX12_write_135 : decode cX12_write 135 = .ok (.invokevirtual 293, 3) := by decide +kernel
theorem dX12_write_138 : decode cX12_write 138 = .ok (.iadd, 1) := by decide +kernel
theorem dX12_write_139 : decode cX12_write 139 = .ok (.istore 4, 2) := by decide +kernel
theorem dX12_write_141 : decode cX12_write 141 = .ok (.goto 34, 3) := by decide +kernel
theorem dX12_write_144 : decode cX12_write 144 = .ok (.aload_n 0, 1) := by decide +kernel
theorem dX12_write_145 : decode cX12_write 145 = .ok (.iload 6, 2) := by decide +kernel
theorem dX12_write_147 : decode cX12_write 147 = .ok (.iload_n 2, 1) := by decide +kernel
theorem dX12_write_148 : decode cX12_write 148 = .ok (.invokevirtual 297, 3) := by decide +kernel
theorem dX12_write_151 : decode cX12_write 151 = .ok (.ifCond .eq 24, 3) := by decide +kernel
theorem dX12_write_154 : decode cX12_write 154 = .ok (.aload_n 0, 1) := by decide +kernel
theorem dX12_write_155 : decode cX12_write 155 = .ok (.getfield 68, 3) := by decide +kernel
theorem dX12_write_158 : decode cX12_write 158 = .ok (.bipush 40, 2) := by decide +kernel
theorem dX12_write_160 : decode cX12_write 160 = .ok (.iload 6, 2) := by decide +kernel
theorem dX12_write_162 : decode cX12_write 162 = .ok (.imul, 1) := by decide +kernel
theorem dX12_write_163 : decode cX12_write 163 = .ok (.iload_n 2, 1) := by decide +kernel
theorem dX12_write_164 : decode cX12_write 164 = .ok (.iadd, 1) := by decide +kernel
theorem dX12_write_165 : decode cX12_write 165 = .ok (.aload_n 0, 1) := by decide +kernel
theorem dX12_write_166 : decode cX12_write 166 = .ok (.getfield 83, 3) := by decide +kernel
theorem dX12_write_169 : decode cX12_write 169 = .ok (.iload_n 2, 1) := by decide +kernel
theorem dX12_write_170 : decode cX12_write 170 = .ok (.iaload, 1) := by decide +kernel
theorem dX12_write_171 : decode cX12_write 171 = .ok (.iastore, 1) := by decide +kernel
theorem dX12_write_172 : decode cX12_write 172 = .ok (.iinc 4 1, 3) := by decide +kernel
theorem dX12_write_175 : decode cX12_write 175 = .ok (.iinc 5 1, 3) := by decide +kernel
theorem dX12_write_178 : decode cX12_write 178 = .ok (.goto (-98), 3) := by decide +kernel
theorem dX12_write_181 : decode cX12_write 181 = .ok (.iload 4, 2) := by decide +kernel
theorem dX12_write_183 : decode cX12_write 183 = .ok (.ireturn, 1) := by decide +kernel
theorem dX12_read_8 : decode cX12_read 8 = .ok (.aload_n 0, 1) := by decide +kernel
theorem dX12_read_9 : decode cX12_read 9 = .ok (.iload_n 2, 1) := by decide +kernel
theorem dX12_read_10 : decode cX12_read 10 = .ok (.invokevirtual 158, 3) := by decide +kernel
theorem dX12_read_13 : decode cX12_read 13 = .ok (.ifCond .ne 5, 3) := by decide +kernel
theorem dX12_read_18 : decode cX12_read 18 = .ok (.aload_n 0, 1) := by decide +kernel
theorem dX12_read_19 : decode cX12_read 19 = .ok (.getfield 25, 3) := by decide +kernel
theorem dX12_read_22 : decode cX12_read 22 = .ok (.iload_n 1, 1) := by decide +kernel
theorem dX12_read_23 : decode cX12_read 23 = .ok (.iaload, 1) := by decide +kernel
theorem dX12_read_24 : decode cX12_read 24 = .ok (.ifCond .lt 11, 3) := by decide +kernel
theorem dX12_read_27 : decode cX12_read 27 = .ok (.aload_n 0, 1) := by decide +kernel
theorem dX12_read_28 : decode cX12_read 28 = .ok (.iload_n 1, 1) := by decide +kernel
theorem dX12_read_29 : decode cX12_read 29 = .ok (.invokevirtual 287, 3) := by decide +kernel
theorem dX12_read_32 : decode cX12_read 32 = .ok (.ifCond .ne 6, 3) := by decide +kernel
theorem dX12_read_35 : decode cX12_read 35 = .ok (.bipush (-5), 2) := by decide +kernel
theorem dX12_read_37 : decode cX12_read 37 = .ok (.ireturn, 1) := by decide +kernel
theorem dX12_read_38 : decode cX12_read 38 = .ok (.aload_n 0, 1) := by decide +kernel
theorem dX12_read_39 : decode cX12_read 39 = .ok (.aload_n 0, 1) := by decide +kernel
theorem dX12_read_40 : decode cX12_read 40 = .ok (.getfield 25, 3) := by decide +kernel
theorem dX12_read_43 : decode cX12_read 43 = .ok (.iload_n 1, 1) := by decide +kernel
theorem dX12_read_44 : decode cX12_read 44 = .ok (.iaload, 1) := by decide +kernel
theorem dX12_read_45 : decode cX12_read 45 = .ok (.iload_n 2, 1) := by decide +kernel
theorem dX12_read_46 : decode cX12_read 46 = .ok (.invokevirtual 269, 3) := by decide +kernel
theorem dX12_read_49 : decode cX12_read 49 = .ok (.iconst 0, 1) := by decide +kernel
theorem dX12_read_50 : decode cX12_read 50 = .ok (.istore_n 3, 1) := by decide +kernel
theorem dX12_read_51 : decode cX12_read 51 = .ok (.iconst 0, 1) := by decide +kernel
theorem dX12_read_52 : decode cX12_read 52 = .ok (.istore 4, 2) := by decide +kernel
theorem dX12_read_54 : decode cX12_read 54 = .ok (.iload 4, 2) := by decide +kernel
theorem dX12_read_56 : decode cX12_read 56 = .ok (.aload_n 0, 1) := by decide +kernel
theorem dX12_read_57 : decode cX12_read 57 = .ok (.getfield 250, 3) := by decide +kernel
theorem dX12_read_60 : decode cX12_read 60 = .ok (.if_icmp .ge 59, 3) := by decide +kernel
theorem dX12_read_63 : decode cX12_read 63 = .ok (.aload_n 0, 1) := by decide +kernel
theorem dX12_read_64 : decode cX12_read 64 = .ok (.aload_n 0, 1) := by decide +kernel
theorem dX12_read_65 : decode cX12_read 65 = .ok (.getfield 121, 3) := by decide +kernel
theorem dX12_read_68 : decode cX12_read 68 = .ok (.iload 4, 2) := by decide +kernel
theorem dX12_read_70 : decode cX12_read 70 = .ok (.iaload, 1) := by decide +kernel
theorem dX12_read_71 : decode cX12_read 71 = .ok (.invokevirtual 287, 3) := by decide +kernel
theorem dX12_read_74 : decode cX12_read 74 = .ok (.ifCond .eq 23, 3) := by decide +kernel
theorem dX12_read_77 : decode cX12_read 77 = .ok (.aload_n 0, 1) := by decide +kernel
theorem dX12_read_78 : decode cX12_read 78 = .ok (.getfield 68, 3) := by decide +kernel
theorem dX12_read_81 : decode cX12_read 81 = .ok (.bipush 40, 2) := by decide +kernel
theorem dX12_read_83 : decode cX12_read 83 = .ok (.aload_n 0, 1) := by decide +kernel
theorem dX12_read_84 : decode cX12_read 84 = .ok (.getfield 121, 3) := by decide +kernel
theorem dX12_read_87 : decode cX12_read 87 = .ok (.iload 4, 2) := by decide +kernel
theorem dX12_read_89 : decode cX12_read 89 = .ok (.iaload, 1) := by decide +kernel
theorem dX12_read_90 : decode cX12_read 90 = .ok (.imul, 1) := by decide +kernel
theorem dX12_read_91 : decode cX12_read 91 = .ok (.iload_n 2, 1) := by decide +kernel
theorem dX12_read_92 : decode cX12_read 92 = .ok (.iadd, 1) := by decide +kernel
theorem dX12_read_93 : decode cX12_read 93 = .ok (.iaload, 1) := by decide +kernel
theorem dX12_read_94 : decode cX12_read 94 = .ok (.goto 4, 3) := by decide +kernel
theorem dX12_read_97 : decode cX12_read 97 = .ok (.iconst 0, 1) := by decide +kernel
theorem dX12_read_98 : decode cX12_read 98 = .ok (.istore 5, 2) := by decide +kernel
theorem dX12_read_100 : decode cX12_read 100 = .ok (.iload 5, 2) := by decide +kernel
theorem dX12_read_102 : decode cX12_read 102 = .ok (.iload_n 3, 1) := by decide +kernel
theorem dX12_read_103 : decode cX12_read 103 = .ok (.if_icmp .le 8, 3) := by decide +kernel
theorem dX12_read_106 : decode cX12_read 106 = .ok (.iload 5, 2) := by decide +kernel
theorem dX12_read_108 : decode cX12_read 108 = .ok (.goto 4, 3) := by decide +kernel
theorem dX12_read_111 : decode cX12_read 111 = .ok (.iload_n 3, 1) := by decide +kernel
theorem dX12_read_112 : decode cX12_read 112 = .ok (.istore_n 3, 1) := by decide +kernel
theorem dX12_read_113 : decode cX12_read 113 = .ok (.iinc 4 1, 3) := by decide +kernel
theorem dX12_read_116 : decode cX12_read 116 = .ok (.goto (-62), 3) := by decide +kernel
theorem dX12_read_119 : decode cX12_read 119 = .ok (.iload_n 3, 1) := by decide +kernel
theorem dX12_read_120 : decode cX12_read 120 = .ok (.ireturn, 1) := by decide +kernel
theorem dX12_onShelf_8 : decode cX12_onShelf 8 = .ok (.aload_n 0, 1) := by decide +kernel
theorem dX12_onShelf_9 : decode cX12_onShelf 9 = .ok (.iload_n 2, 1) := by decide +kernel
theorem dX12_onShelf_10 : decode cX12_onShelf 10 = .ok (.invokevirtual 158, 3) := by decide +kernel
theorem dX12_onShelf_13 : decode cX12_onShelf 13 = .ok (.ifCond .ne 5, 3) := by decide +kernel
theorem dX12_onShelf_18 : decode cX12_onShelf 18 = .ok (.bipush 40, 2) := by decide +kernel
theorem dX12_onShelf_20 : decode cX12_onShelf 20 = .ok (.iload_n 1, 1) := by decide +kernel
theorem dX12_onShelf_21 : decode cX12_onShelf 21 = .ok (.imul, 1) := by decide +kernel
theorem dX12_onShelf_22 : decode cX12_onShelf 22 = .ok (.iload_n 2, 1) := by decide +kernel
theorem dX12_onShelf_23 : decode cX12_onShelf 23 = .ok (.iadd, 1) := by decide +kernel
theorem dX12_onShelf_24 : decode cX12_onShelf 24 = .ok (.istore 4, 2) := by decide +kernel
theorem dX12_onShelf_26 : decode cX12_onShelf 26 = .ok (.iload_n 3, 1) := by decide +kernel
theorem dX12_onShelf_27 : decode cX12_onShelf 27 = .ok (.ifCond .ne 13, 3) := by decide +kernel
theorem dX12_onShelf_30 : decode cX12_onShelf 30 = .ok (.aload_n 0, 1) := by decide +kernel
theorem dX12_onShelf_31 : decode cX12_onShelf 31 = .ok (.getfield 68, 3) := by decide +kernel
theorem dX12_onShelf_34 : decode cX12_onShelf 34 = .ok (.iload 4, 2) := by decide +kernel
theorem dX12_onShelf_36 : decode cX12_onShelf 36 = .ok (.iaload, 1) := by decide +kernel
theorem dX12_onShelf_37 : decode cX12_onShelf 37 = .ok (.goto 49, 3) := by decide +kernel
theorem dX12_onShelf_40 : decode cX12_onShelf 40 = .ok (.iload_n 3, 1) := by decide +kernel
theorem dX12_onShelf_41 : decode cX12_onShelf 41 = .ok (.iconst 1, 1) := by decide +kernel
theorem dX12_onShelf_42 : decode cX12_onShelf 42 = .ok (.if_icmp .ne 13, 3) := by decide +kernel
theorem dX12_onShelf_45 : decode cX12_onShelf 45 = .ok (.aload_n 0, 1) := by decide +kernel
theorem dX12_onShelf_46 : decode cX12_onShelf 46 = .ok (.getfield 71, 3) := by decide +kernel
theorem dX12_onShelf_49 : decode cX12_onShelf 49 = .ok (.iload 4, 2) := by decide +kernel
theorem dX12_onShelf_51 : decode cX12_onShelf 51 = .ok (.iaload, 1) := by decide +kernel
theorem dX12_onShelf_52 : decode cX12_onShelf 52 = .ok (.goto 34, 3) := by decide +kernel
theorem dX12_onShelf_55 : decode cX12_onShelf 55 = .ok (.iload_n 3, 1) := by decide +kernel
theorem dX12_onShelf_56 : decode cX12_onShelf 56 = .ok (.iconst 2, 1) := by decide +kernel
theorem dX12_onShelf_57 : decode cX12_onShelf 57 = .ok (.if_icmp .ne 13, 3) := by decide +kernel
theorem dX12_onShelf_60 : decode cX12_onShelf 60 = .ok (.aload_n 0, 1) := by decide +kernel
theorem dX12_onShelf_61 : decode cX12_onShelf 61 = .ok (.getfield 74, 3) := by decide +kernel
theorem dX12_onShelf_64 : decode cX12_onShelf 64 = .ok (.iload 4, 2) := by decide +kernel
theorem dX12_onShelf_66 : decode cX12_onShelf 66 = .ok (.iaload, 1) := by decide +kernel
theorem dX12_onShelf_67 : decode cX12_onShelf 67 = .ok (.goto 19, 3) := by decide +kernel
theorem dX12_onShelf_70 : decode cX12_onShelf 70 = .ok (.iload_n 3, 1) := by decide +kernel
theorem dX12_onShelf_71 : decode cX12_onShelf 71 = .ok (.iconst 3, 1) := by decide +kernel
theorem dX12_onShelf_72 : decode cX12_onShelf 72 = .ok (.if_icmp .ne 13, 3) := by decide +kernel
theorem dX12_onShelf_75 : decode cX12_onShelf 75 = .ok (.aload_n 0, 1) := by decide +kernel
theorem dX12_onShelf_76 : decode cX12_onShelf 76 = .ok (.getfield 77, 3) := by decide +kernel
theorem dX12_onShelf_79 : decode cX12_onShelf 79 = .ok (.iload 4, 2) := by decide +kernel
theorem dX12_onShelf_81 : decode cX12_onShelf 81 = .ok (.iaload, 1) := by decide +kernel
theorem dX12_onShelf_82 : decode cX12_onShelf 82 = .ok (.goto 4, 3) := by decide +kernel
theorem dX12_onShelf_85 : decode cX12_onShelf 85 = .ok (.iconst (-1), 1) := by decide +kernel
theorem dX12_onShelf_86 : decode cX12_onShelf 86 = .ok (.ireturn, 1) := by decide +kernel
theorem dX12_fall_8 : decode cX12_fall 8 = .ok (.iload_n 2, 1) := by decide +kernel
theorem dX12_fall_9 : decode cX12_fall 9 = .ok (.iconst 0, 1) := by decide +kernel
theorem dX12_fall_10 : decode cX12_fall 10 = .ok (.iconst 1, 1) := by decide +kernel
theorem dX12_fall_11 : decode cX12_fall 11 = .ok (.invokestatic 136, 3) := by decide +kernel
theorem dX12_fall_14 : decode cX12_fall 14 = .ok (.ifCond .ne 5, 3) := by decide +kernel
theorem dX12_fall_19 : decode cX12_fall 19 = .ok (.aload_n 0, 1) := by decide +kernel
theorem dX12_fall_20 : decode cX12_fall 20 = .ok (.getfield 28, 3) := by decide +kernel
theorem dX12_fall_23 : decode cX12_fall 23 = .ok (.iload_n 1, 1) := by decide +kernel
theorem dX12_fall_24 : decode cX12_fall 24 = .ok (.baload, 1) := by decide +kernel
theorem dX12_fall_25 : decode cX12_fall 25 = .ok (.ifCond .eq 7, 3) := by decide +kernel
theorem dX12_fall_28 : decode cX12_fall 28 = .ok (.iconst 1, 1) := by decide +kernel
theorem dX12_fall_29 : decode cX12_fall 29 = .ok (.goto 4, 3) := by decide +kernel
theorem dX12_fall_32 : decode cX12_fall 32 = .ok (.iconst 0, 1) := by decide +kernel
theorem dX12_fall_33 : decode cX12_fall 33 = .ok (.istore_n 3, 1) := by decide +kernel
theorem dX12_fall_34 : decode cX12_fall 34 = .ok (.aload_n 0, 1) := by decide +kernel
theorem dX12_fall_35 : decode cX12_fall 35 = .ok (.getfield 28, 3) := by decide +kernel
theorem dX12_fall_38 : decode cX12_fall 38 = .ok (.iload_n 1, 1) := by decide +kernel
theorem dX12_fall_39 : decode cX12_fall 39 = .ok (.iload_n 2, 1) := by decide +kernel
theorem dX12_fall_40 : decode cX12_fall 40 = .ok (.iconst 1, 1) := by decide +kernel
theorem dX12_fall_41 : decode cX12_fall 41 = .ok (.if_icmp .ne 7, 3) := by decide +kernel
theorem dX12_fall_44 : decode cX12_fall 44 = .ok (.iconst 1, 1) := by decide +kernel
theorem dX12_fall_45 : decode cX12_fall 45 = .ok (.goto 4, 3) := by decide +kernel
theorem dX12_fall_48 : decode cX12_fall 48 = .ok (.iconst 0, 1) := by decide +kernel
theorem dX12_fall_49 : decode cX12_fall 49 = .ok (.bastore, 1) := by decide +kernel
theorem dX12_fall_50 : decode cX12_fall 50 = .ok (.iconst 0, 1) := by decide +kernel
theorem dX12_fall_51 : decode cX12_fall 51 = .ok (.istore 4, 2) := by decide +kernel
theorem dX12_fall_53 : decode cX12_fall 53 = .ok (.iload 4, 2) := by decide +kernel
theorem dX12_fall_55 : decode cX12_fall 55 = .ok (.bipush 40, 2) := by decide +kernel
theorem dX12_fall_57 : decode cX12_fall 57 = .ok (.if_icmp .ge 54, 3) := by decide +kernel
theorem dX12_fall_60 : decode cX12_fall 60 = .ok (.iload_n 2, 1) := by decide +kernel
theorem dX12_fall_61 : decode cX12_fall 61 = .ok (.iconst 1, 1) := by decide +kernel
theorem dX12_fall_62 : decode cX12_fall 62 = .ok (.if_icmp .ne 49, 3) := by decide +kernel
theorem dX12_fall_65 : decode cX12_fall 65 = .ok (.aload_n 0, 1) := by decide +kernel
theorem dX12_fall_66 : decode cX12_fall 66 = .ok (.getfield 68, 3) := by decide +kernel
theorem dX12_fall_69 : decode cX12_fall 69 = .ok (.bipush 40, 2) := by decide +kernel
theorem dX12_fall_71 : decode cX12_fall 71 = .ok (.iload_n 1, 1) := by decide +kernel
theorem dX12_fall_72 : decode cX12_fall 72 = .ok (.imul, 1) := by decide +kernel
theorem dX12_fall_73 : decode cX12_fall 73 = .ok (.iload 4, 2) := by decide +kernel
theorem dX12_fall_75 : decode cX12_fall 75 = .ok (.iadd, 1) := by decide +kernel
theorem dX12_fall_76 : decode cX12_fall 76 = .ok (.iconst 0, 1) := by decide +kernel
theorem dX12_fall_77 : decode cX12_fall 77 = .ok (.iastore, 1) := by decide +kernel
theorem dX12_fall_78 : decode cX12_fall 78 = .ok (.aload_n 0, 1) := by decide +kernel
theorem dX12_fall_79 : decode cX12_fall 79 = .ok (.getfield 71, 3) := by decide +kernel
theorem dX12_fall_82 : decode cX12_fall 82 = .ok (.bipush 40, 2) := by decide +kernel
theorem dX12_fall_84 : decode cX12_fall 84 = .ok (.iload_n 1, 1) := by decide +kernel
theorem dX12_fall_85 : decode cX12_fall 85 = .ok (.imul, 1) := by decide +kernel
theorem dX12_fall_86 : decode cX12_fall 86 = .ok (.iload 4, 2) := by decide +kernel
theorem dX12_fall_88 : decode cX12_fall 88 = .ok (.iadd, 1) := by decide +kernel
theorem dX12_fall_89 : decode cX12_fall 89 = .ok (.iconst 0, 1) := by decide +kernel
theorem dX12_fall_90 : decode cX12_fall 90 = .ok (.iastore, 1) := by decide +kernel
theorem dX12_fall_91 : decode cX12_fall 91 = .ok (.aload_n 0, 1) := by decide +kernel
theorem dX12_fall_92 : decode cX12_fall 92 = .ok (.getfield 74, 3) := by decide +kernel
theorem dX12_fall_95 : decode cX12_fall 95 = .ok (.bipush 40, 2) := by decide +kernel
theorem dX12_fall_97 : decode cX12_fall 97 = .ok (.iload_n 1, 1) := by decide +kernel
theorem dX12_fall_98 : decode cX12_fall 98 = .ok (.imul, 1) := by decide +kernel
theorem dX12_fall_99 : decode cX12_fall 99 = .ok (.iload 4, 2) := by decide +kernel
theorem dX12_fall_101 : decode cX12_fall 101 = .ok (.iadd, 1) := by decide +kernel
theorem dX12_fall_102 : decode cX12_fall 102 = .ok (.bipush (-2), 2) := by decide +kernel
theorem dX12_fall_104 : decode cX12_fall 104 = .ok (.iastore, 1) := by decide +kernel
theorem dX12_fall_105 : decode cX12_fall 105 = .ok (.iinc 4 1, 3) := by decide +kernel
theorem dX12_fall_108 : decode cX12_fall 108 = .ok (.goto (-55), 3) := by decide +kernel
theorem dX12_fall_111 : decode cX12_fall 111 = .ok (.iload_n 3, 1) := by decide +kernel
theorem dX12_fall_112 : decode cX12_fall 112 = .ok (.ireturn, 1) := by decide +kernel
theorem dX12_half_8 : decode cX12_half 8 = .ok (.aload_n 0, 1) := by decide +kernel
theorem dX12_half_9 : decode cX12_half 9 = .ok (.iload_n 2, 1) := by decide +kernel
theorem dX12_half_10 : decode cX12_half 10 = .ok (.invokevirtual 166, 3) := by decide +kernel
theorem dX12_half_13 : decode cX12_half 13 = .ok (.ifCond .eq 16, 3) := by decide +kernel
theorem dX12_half_16 : decode cX12_half 16 = .ok (.aload_n 0, 1) := by decide +kernel
theorem dX12_half_17 : decode cX12_half 17 = .ok (.iload_n 3, 1) := by decide +kernel
theorem dX12_half_18 : decode cX12_half 18 = .ok (.invokevirtual 166, 3) := by decide +kernel
theorem dX12_half_21 : decode cX12_half 21 = .ok (.ifCond .eq 8, 3) := by decide +kernel
theorem dX12_half_24 : decode cX12_half 24 = .ok (.iload_n 2, 1) := by decide +kernel
theorem dX12_half_25 : decode cX12_half 25 = .ok (.iload_n 3, 1) := by decide +kernel
theorem dX12_half_26 : decode cX12_half 26 = .ok (.if_icmp .ne 5, 3) := by decide +kernel
theorem dX12_half_31 : decode cX12_half 31 = .ok (.bipush 40, 2) := by decide +kernel
theorem dX12_half_33 : decode cX12_half 33 = .ok (.iload_n 2, 1) := by decide +kernel
theorem dX12_half_34 : decode cX12_half 34 = .ok (.imul, 1) := by decide +kernel
theorem dX12_half_35 : decode cX12_half 35 = .ok (.iload_n 1, 1) := by decide +kernel
theorem dX12_half_36 : decode cX12_half 36 = .ok (.iadd, 1) := by decide +kernel
theorem dX12_half_37 : decode cX12_half 37 = .ok (.istore 4, 2) := by decide +kernel
theorem dX12_half_39 : decode cX12_half 39 = .ok (.aload_n 0, 1) := by decide +kernel
theorem dX12_half_40 : decode cX12_half 40 = .ok (.getfield 68, 3) := by decide +kernel
theorem dX12_half_43 : decode cX12_half 43 = .ok (.iload 4, 2) := by decide +kernel
theorem dX12_half_45 : decode cX12_half 45 = .ok (.iaload, 1) := by decide +kernel
theorem dX12_half_46 : decode cX12_half 46 = .ok (.ifCond .ne 6, 3) := by decide +kernel
theorem dX12_half_49 : decode cX12_half 49 = .ok (.bipush (-2), 2) := by decide +kernel
theorem dX12_half_51 : decode cX12_half 51 = .ok (.ireturn, 1) := by decide +kernel
theorem dX12_half_52 : decode cX12_half 52 = .ok (.aload_n 0, 1) := by decide +kernel
theorem dX12_half_53 : decode cX12_half 53 = .ok (.iload_n 2, 1) := by decide +kernel
theorem dX12_half_54 : decode cX12_half 54 = .ok (.invokevirtual 287, 3) := by decide +kernel
theorem dX12_half_57 : decode cX12_half 57 = .ok (.ifCond .eq 11, 3) := by decide +kernel
theorem dX12_half_60 : decode cX12_half 60 = .ok (.aload_n 0, 1) := by decide +kernel
theorem dX12_half_61 : decode cX12_half 61 = .ok (.iload_n 3, 1) := by decide +kernel
theorem dX12_half_62 : decode cX12_half 62 = .ok (.invokevirtual 287, 3) := by decide +kernel
theorem dX12_half_65 : decode cX12_half 65 = .ok (.ifCond .ne 13, 3) := by decide +kernel
theorem dX12_half_68 : decode cX12_half 68 = .ok (.aload_n 0, 1) := by decide +kernel
theorem dX12_half_69 : decode cX12_half 69 = .ok (.getfield 77, 3) := by decide +kernel
theorem dX12_half_72 : decode cX12_half 72 = .ok (.iload 4, 2) := by decide +kernel
theorem dX12_half_74 : decode cX12_half 74 = .ok (.iconst 0, 1) := by decide +kernel
theorem dX12_half_75 : decode cX12_half 75 = .ok (.iastore, 1) := by decide +kernel
theorem dX12_half_76 : decode cX12_half 76 = .ok (.iconst 0, 1) := by decide +kernel
theorem dX12_half_77 : decode cX12_half 77 = .ok (.ireturn, 1) := by decide +kernel
theorem dX12_half_78 : decode cX12_half 78 = .ok (.aload_n 0, 1) := by decide +kernel
theorem dX12_half_79 : decode cX12_half 79 = .ok (.getfield 77, 3) := by decide +kernel
theorem dX12_half_82 : decode cX12_half 82 = .ok (.iload 4, 2) := by decide +kernel
theorem dX12_half_84 : decode cX12_half 84 = .ok (.aload_n 0, 1) := by decide +kernel
theorem dX12_half_85 : decode cX12_half 85 = .ok (.getfield 77, 3) := by decide +kernel
theorem dX12_half_88 : decode cX12_half 88 = .ok (.iload 4, 2) := by decide +kernel
theorem dX12_half_90 : decode cX12_half 90 = .ok (.iaload, 1) := by decide +kernel
theorem dX12_half_91 : decode cX12_half 91 = .ok (.ifCond .le 26, 3) := by decide +kernel
theorem dX12_half_94 : decode cX12_half 94 = .ok (.aload_n 0, 1) := by decide +kernel
theorem dX12_half_95 : decode cX12_half 95 = .ok (.getfield 80, 3) := by decide +kernel
theorem dX12_half_98 : decode cX12_half 98 = .ok (.iload 4, 2) := by decide +kernel
theorem dX12_half_100 : decode cX12_half 100 = .ok (.iaload, 1) := by decide +kernel
theorem dX12_half_101 : decode cX12_half 101 = .ok (.iload_n 3, 1) := by decide +kernel
theorem dX12_half_102 : decode cX12_half 102 = .ok (.if_icmp .ne 15, 3) := by decide +kernel
theorem dX12_half_105 : decode cX12_half 105 = .ok (.aload_n 0, 1) := by decide +kernel
theorem dX12_half_106 : decode cX12_half 106 = .ok (.getfield 77, 3) := by decide +kernel
theorem dX12_half_109 : decode cX12_half 109 = .ok (.iload 4, 2) := by decide +kernel
theorem dX12_half_111 : decode cX12_half 111 = .ok (.iaload, 1) := by decide +kernel
theorem dX12_half_112 : decode cX12_half 112 = .ok (.iconst 1, 1) := by decide +kernel
theorem dX12_half_113 : decode cX12_half 113 = .ok (.iadd, 1) := by decide +kernel
theorem dX12_half_114 : decode cX12_half 114 = .ok (.goto 4, 3) := by decide +kernel
theorem dX12_half_117 : decode cX12_half 117 = .ok (.iconst 1, 1) := by decide +kernel
theorem dX12_half_118 : decode cX12_half 118 = .ok (.iastore, 1) := by decide +kernel
theorem dX12_half_119 : decode cX12_half 119 = .ok (.aload_n 0, 1) := by decide +kernel
theorem dX12_half_120 : decode cX12_half 120 = .ok (.getfield 80, 3) := by decide +kernel
theorem dX12_half_123 : decode cX12_half 123 = .ok (.iload 4, 2) := by decide +kernel
theorem dX12_half_125 : decode cX12_half 125 = .ok (.iload_n 3, 1) := by decide +kernel
theorem dX12_half_126 : decode cX12_half 126 = .ok (.iastore, 1) := by decide +kernel
theorem dX12_half_127 : decode cX12_half 127 = .ok (.aload_n 0, 1) := by decide +kernel
theorem dX12_half_128 : decode cX12_half 128 = .ok (.getfield 77, 3) := by decide +kernel
theorem dX12_half_131 : decode cX12_half 131 = .ok (.iload 4, 2) := by decide +kernel
theorem dX12_half_133 : decode cX12_half 133 = .ok (.iaload, 1) := by decide +kernel
theorem dX12_half_134 : decode cX12_half 134 = .ok (.iconst 3, 1) := by decide +kernel
theorem dX12_half_135 : decode cX12_half 135 = .ok (.if_icmp .ge 11, 3) := by decide +kernel
theorem dX12_half_138 : decode cX12_half 138 = .ok (.aload_n 0, 1) := by decide +kernel
theorem dX12_half_139 : decode cX12_half 139 = .ok (.getfield 77, 3) := by decide +kernel
theorem dX12_half_142 : decode cX12_half 142 = .ok (.iload 4, 2) := by decide +kernel
theorem dX12_half_144 : decode cX12_half 144 = .ok (.iaload, 1) := by decide +kernel
theorem dX12_half_145 : decode cX12_half 145 = .ok (.ireturn, 1) := by decide +kernel
theorem dX12_half_146 : decode cX12_half 146 = .ok (.bipush 40, 2) := by decide +kernel
theorem dX12_half_148 : decode cX12_half 148 = .ok (.iload_n 3, 1) := by decide +kernel
theorem dX12_half_149 : decode cX12_half 149 = .ok (.imul, 1) := by decide +kernel
theorem dX12_half_150 : decode cX12_half 150 = .ok (.iload_n 1, 1) := by decide +kernel
theorem dX12_half_151 : decode cX12_half 151 = .ok (.iadd, 1) := by decide +kernel
theorem dX12_half_152 : decode cX12_half 152 = .ok (.istore 5, 2) := by decide +kernel
theorem dX12_half_154 : decode cX12_half 154 = .ok (.aload_n 0, 1) := by decide +kernel
theorem dX12_half_155 : decode cX12_half 155 = .ok (.getfield 68, 3) := by decide +kernel
theorem dX12_half_158 : decode cX12_half 158 = .ok (.iload 5, 2) := by decide +kernel
theorem dX12_half_160 : decode cX12_half 160 = .ok (.aload_n 0, 1) := by decide +kernel
theorem dX12_half_161 : decode cX12_half 161 = .ok (.getfield 68, 3) := by decide +kernel
theorem dX12_half_164 : decode cX12_half 164 = .ok (.iload 4, 2) := by decide +kernel
theorem dX12_half_166 : decode cX12_half 166 = .ok (.iaload, 1) := by decide +kernel
theorem dX12_half_167 : decode cX12_half 167 = .ok (.aload_n 0, 1) := by decide +kernel
theorem dX12_half_168 : decode cX12_half 168 = .ok (.getfield 68, 3) := by decide +kernel
theorem dX12_half_171 : decode cX12_half 171 = .ok (.iload 5, 2) := by decide +kernel
theorem dX12_half_173 : decode cX12_half 173 = .ok (.iaload, 1) := by decide +kernel
theorem dX12_half_174 : decode cX12_half 174 = .ok (.if_icmp .le 13, 3) := by decide +kernel
theorem dX12_half_177 : decode cX12_half 177 = .ok (.aload_n 0, 1) := by decide +kernel
theorem dX12_half_178 : decode cX12_half 178 = .ok (.getfield 68, 3) := by decide +kernel
theorem dX12_half_181 : decode cX12_half 181 = .ok (.iload 4, 2) := by decide +kernel
theorem dX12_half_183 : decode cX12_half 183 = .ok (.iaload, 1) := by decide +kernel
theorem dX12_half_184 : decode cX12_half 184 = .ok (.goto 10, 3) := by decide +kernel
theorem dX12_half_187 : decode cX12_half 187 = .ok (.aload_n 0, 1) := by decide +kernel
theorem dX12_half_188 : decode cX12_half 188 = .ok (.getfield 68, 3) := by decide +kernel
theorem dX12_half_191 : decode cX12_half 191 = .ok (.iload 5, 2) := by decide +kernel
theorem dX12_half_193 : decode cX12_half 193 = .ok (.iaload, 1) := by decide +kernel
theorem dX12_half_194 : decode cX12_half 194 = .ok (.iastore, 1) := by decide +kernel
theorem dX12_half_195 : decode cX12_half 195 = .ok (.aload_n 0, 1) := by decide +kernel
theorem dX12_half_196 : decode cX12_half 196 = .ok (.getfield 68, 3) := by decide +kernel
theorem dX12_half_199 : decode cX12_half 199 = .ok (.iload 4, 2) := by decide +kernel
theorem dX12_half_201 : decode cX12_half 201 = .ok (.iconst 0, 1) := by decide +kernel
theorem dX12_half_202 : decode cX12_half 202 = .ok (.iastore, 1) := by decide +kernel
theorem dX12_half_203 : decode cX12_half 203 = .ok (.aload_n 0, 1) := by decide +kernel
theorem dX12_half_204 : decode cX12_half 204 = .ok (.getfield 77, 3) := by decide +kernel
theorem dX12_half_207 : decode cX12_half 207 = .ok (.iload 4, 2) := by decide +kernel
theorem dX12_half_209 : decode cX12_half 209 = .ok (.iconst 0, 1) := by decide +kernel
theorem dX12_half_210 : decode cX12_half 210 = .ok (.iastore, 1) := by decide +kernel
theorem dX12_half_211 : decode cX12_half 211 = .ok (.iconst 3, 1) := by decide +kernel
theorem dX12_half_212 : decode cX12_half 212 = .ok (.ireturn, 1) := by decide +kernel
theorem dX12_mend_10 : decode cX12_mend 10 = .ok (.iconst 0, 1) := by decide +kernel
theorem dX12_mend_11 : decode cX12_mend 11 = .ok (.istore_n 2, 1) := by decide +kernel
theorem dX12_mend_12 : decode cX12_mend 12 = .ok (.iconst 0, 1) := by decide +kernel
theorem dX12_mend_13 : decode cX12_mend 13 = .ok (.istore_n 3, 1) := by decide +kernel
theorem dX12_mend_14 : decode cX12_mend 14 = .ok (.iload_n 3, 1) := by decide +kernel
theorem dX12_mend_15 : decode cX12_mend 15 = .ok (.aload_n 0, 1) := by decide +kernel
theorem dX12_mend_16 : decode cX12_mend 16 = .ok (.getfield 133, 3) := by decide +kernel
theorem dX12_mend_19 : decode cX12_mend 19 = .ok (.if_icmp .ge 167, 3) := by decide +kernel
theorem dX12_mend_22 : decode cX12_mend 22 = .ok (.iconst 0, 1) := by decide +kernel
theorem dX12_mend_23 : decode cX12_mend 23 = .ok (.istore 4, 2) := by decide +kernel
theorem dX12_mend_25 : decode cX12_mend 25 = .ok (.iconst 0, 1) := by decide +kernel
theorem dX12_mend_26 : decode cX12_mend 26 = .ok (.istore 5, 2) := by decide +kernel
theorem dX12_mend_28 : decode cX12_mend 28 = .ok (.iload 5, 2) := by decide +kernel
theorem dX12_mend_30 : decode cX12_mend 30 = .ok (.aload_n 0, 1) := by decide +kernel
theorem dX12_mend_31 : decode cX12_mend 31 = .ok (.getfield 140, 3) := by decide +kernel
theorem dX12_mend_34 : decode cX12_mend 34 = .ok (.if_icmp .ge 55, 3) := by decide +kernel
theorem dX12_mend_37 : decode cX12_mend 37 = .ok (.aload_n 0, 1) := by decide +kernel
theorem dX12_mend_38 : decode cX12_mend 38 = .ok (.getfield 28, 3) := by decide +kernel
theorem dX12_mend_41 : decode cX12_mend 41 = .ok (.iload 5, 2) := by decide +kernel
theorem dX12_mend_43 : decode cX12_mend 43 = .ok (.baload, 1) := by decide +kernel
theorem dX12_mend_44 : decode cX12_mend 44 = .ok (.ifCond .ne 35, 3) := by decide +kernel
theorem dX12_mend_47 : decode cX12_mend 47 = .ok (.aload_n 0, 1) := by decide +kernel
theorem dX12_mend_48 : decode cX12_mend 48 = .ok (.getfield 68, 3) := by decide +kernel
theorem dX12_mend_51 : decode cX12_mend 51 = .ok (.bipush 40, 2) := by decide +kernel
theorem dX12_mend_53 : decode cX12_mend 53 = .ok (.iload 5, 2) := by decide +kernel
theorem dX12_mend_55 : decode cX12_mend 55 = .ok (.imul, 1) := by decide +kernel
theorem dX12_mend_56 : decode cX12_mend 56 = .ok (.iload_n 3, 1) := by decide +kernel
theorem dX12_mend_57 : decode cX12_mend 57 = .ok (.iadd, 1) := by decide +kernel
theorem dX12_mend_58 : decode cX12_mend 58 = .ok (.iaload, 1) := by decide +kernel
theorem dX12_mend_59 : decode cX12_mend 59 = .ok (.iload 4, 2) := by decide +kernel
theorem dX12_mend_61 : decode cX12_mend 61 = .ok (.if_icmp .le 18, 3) := by decide +kernel
theorem dX12_mend_64 : decode cX12_mend 64 = .ok (.aload_n 0, 1) := by decide +kernel
theorem dX12_mend_65 : decode cX12_mend 65 = .ok (.getfield 68, 3) := by decide +kernel
theorem dX12_mend_68 : decode cX12_mend 68 = .ok (.bipush 40, 2) := by decide +kernel
theorem dX12_mend_70 : decode cX12_mend 70 = .ok (.iload 5, 2) := by decide +kernel
theorem dX12_mend_72 : decode cX12_mend 72 = .ok (.imul, 1) := by decide +kernel
theorem dX12_mend_73 : decode cX12_mend 73 = .ok (.iload_n 3, 1) := by decide +kernel
theorem dX12_mend_74 : decode cX12_mend 74 = .ok (.iadd, 1) := by decide +kernel
theorem dX12_mend_75 : decode cX12_mend 75 = .ok (.iaload, 1) := by decide +kernel
theorem dX12_mend_76 : decode cX12_mend 76 = .ok (.goto 5, 3) := by decide +kernel
theorem dX12_mend_79 : decode cX12_mend 79 = .ok (.iload 4, 2) := by decide +kernel
theorem dX12_mend_81 : decode cX12_mend 81 = .ok (.istore 4, 2) := by decide +kernel
theorem dX12_mend_83 : decode cX12_mend 83 = .ok (.iinc 5 1, 3) := by decide +kernel
theorem dX12_mend_86 : decode cX12_mend 86 = .ok (.goto (-58), 3) := by decide +kernel
theorem dX12_mend_89 : decode cX12_mend 89 = .ok (.aload_n 0, 1) := by decide +kernel
theorem dX12_mend_90 : decode cX12_mend 90 = .ok (.iload_n 1, 1) := by decide +kernel
theorem dX12_mend_91 : decode cX12_mend 91 = .ok (.iload_n 3, 1) := by decide +kernel
theorem dX12_mend_92 : decode cX12_mend 92 = .ok (.invokevirtual 269, 3) := by decide +kernel
theorem dX12_mend_95 : decode cX12_mend 95 = .ok (.iconst 0, 1) := by decide +kernel
theorem dX12_mend_96 : decode cX12_mend 96 = .ok (.istore 5, 2) := by decide +kernel
theorem dX12_mend_98 : decode cX12_mend 98 = .ok (.iload 5, 2) := by decide +kernel
theorem dX12_mend_100 : decode cX12_mend 100 = .ok (.aload_n 0, 1) := by decide +kernel
theorem dX12_mend_101 : decode cX12_mend 101 = .ok (.getfield 250, 3) := by decide +kernel
theorem dX12_mend_104 : decode cX12_mend 104 = .ok (.if_icmp .ge 76, 3) := by decide +kernel
theorem dX12_mend_107 : decode cX12_mend 107 = .ok (.bipush 40, 2) := by decide +kernel
theorem dX12_mend_109 : decode cX12_mend 109 = .ok (.aload_n 0, 1) := by decide +kernel
theorem dX12_mend_110 : decode cX12_mend 110 = .ok (.getfield 121, 3) := by decide +kernel
theorem dX12_mend_113 : decode cX12_mend 113 = .ok (.iload 5, 2) := by decide +kernel
theorem dX12_mend_115 : decode cX12_mend 115 = .ok (.iaload, 1) := by decide +kernel
theorem dX12_mend_116 : decode cX12_mend 116 = .ok (.imul, 1) := by decide +kernel
theorem dX12_mend_117 : decode cX12_mend 117 = .ok (.iload_n 3, 1) := by decide +kernel
theorem dX12_mend_118 : decode cX12_mend 118 = .ok (.iadd, 1) := by decide +kernel
theorem dX12_mend_119 : decode cX12_mend 119 = .ok (.istore 6, 2) := by decide +kernel
theorem dX12_mend_121 : decode cX12_mend 121 = .ok (.aload_n 0, 1) := by decide +kernel
theorem dX12_mend_122 : decode cX12_mend 122 = .ok (.aload_n 0, 1) := by decide +kernel
theorem dX12_mend_123 : decode cX12_mend 123 = .ok (.getfield 121, 3) := by decide +kernel
theorem dX12_mend_126 : decode cX12_mend 126 = .ok (.iload 5, 2) := by decide +kernel
theorem dX12_mend_128 : decode cX12_mend 128 = .ok (.iaload, 1) := by decide +kernel
theorem dX12_mend_129 : decode cX12_mend 129 = .ok (.invokevirtual 287, 3) := by decide +kernel
theorem dX12_mend_132 : decode cX12_mend 132 = .ok (.ifCond .eq 42, 3) := by decide +kernel
theorem dX12_mend_135 : decode cX12_mend 135 = .ok (.aload_n 0, 1) := by decide +kernel
theorem dX12_mend_136 : decode cX12_mend 136 = .ok (.getfield 68, 3) := by decide +kernel
theorem dX12_mend_139 : decode cX12_mend 139 = .ok (.iload 6, 2) := by decide +kernel
theorem dX12_mend_141 : decode cX12_mend 141 = .ok (.iaload, 1) := by decide +kernel
theorem dX12_mend_142 : decode cX12_mend 142 = .ok (.iload 4, 2) := by decide +kernel
theorem dX12_mend_144 : decode cX12_mend 144 = .ok (.if_icmp .ge 30, 3) := by decide +kernel
theorem dX12_mend_147 : decode cX12_mend 147 = .ok (.aload_n 0, 1) := by decide +kernel
theorem dX12_mend_148 : decode cX12_mend 148 = .ok (.aload_n 0, 1) := by decide +kernel
theorem dX12_mend_149 : decode cX12_mend 149 = .ok (.getfield 121, 3) := by decide +kernel
theorem dX12_mend_152 : decode cX12_mend 152 = .ok (.iload 5, 2) := by decide +kernel
theorem dX12_mend_154 : decode cX12_mend 154 = .ok (.iaload, 1) := by decide +kernel
theorem dX12_mend_155 : decode cX12_mend 155 = .ok (.iload_n 3, 1) := by decide +kernel
theorem dX12_mend_156 : decode cX12_mend 156 = .ok (.invokevirtual 297, 3) := by decide +kernel
theorem dX12_mend_159 : decode cX12_mend 159 = .ok (.ifCond .eq 15, 3) := by decide +kernel
theorem dX12_mend_162 : decode cX12_mend 162 = .ok (.aload_n 0, 1) := by decide +kernel
theorem dX12_mend_163 : decode cX12_mend 163 = .ok (.getfield 68, 3) := by decide +kernel
theorem dX12_mend_166 : decode cX12_mend 166 = .ok (.iload 6, 2) := by decide +kernel
theorem dX12_mend_168 : decode cX12_mend 168 = .ok (.iload 4, 2) := by decide +kernel
theorem dX12_mend_170 : decode cX12_mend 170 = .ok (.iastore, 1) := by decide +kernel
theorem dX12_mend_171 : decode cX12_mend 171 = .ok (.iinc 2 1, 3) := by decide +kernel
theorem dX12_mend_174 : decode cX12_mend 174 = .ok (.iinc 5 1, 3) := by decide +kernel
theorem dX12_mend_177 : decode cX12_mend 177 = .ok (.goto (-79), 3) := by decide +kernel
theorem dX12_mend_180 : decode cX12_mend 180 = .ok (.iinc 3 1, 3) := by decide +kernel
theorem dX12_mend_183 : decode cX12_mend 183 = .ok (.goto (-169), 3) := by decide +kernel
theorem dX12_mend_186 : decode cX12_mend 186 = .ok (.iload_n 2, 1) := by decide +kernel
theorem dX12_mend_187 : decode cX12_mend 187 = .ok (.ireturn, 1) := by decide +kernel
theorem dX12_leafOf_0 : decode cX12_leafOf 0 = .ok (.iconst 0, 1) := by decide +kernel
theorem dX12_leafOf_1 : decode cX12_leafOf 1 = .ok (.istore_n 3, 1) := by decide +kernel
theorem dX12_leafOf_2 : decode cX12_leafOf 2 = .ok (.iload_n 2, 1) := by decide +kernel
theorem dX12_leafOf_3 : decode cX12_leafOf 3 = .ok (.istore 4, 2) := by decide +kernel
theorem dX12_leafOf_5 : decode cX12_leafOf 5 = .ok (.iload 4, 2) := by decide +kernel
theorem dX12_leafOf_7 : decode cX12_leafOf 7 = .ok (.aload_n 0, 1) := by decide +kernel
theorem dX12_leafOf_8 : decode cX12_leafOf 8 = .ok (.getfield 133, 3) := by decide +kernel
theorem dX12_leafOf_11 : decode cX12_leafOf 11 = .ok (.if_icmp .ge 29, 3) := by decide +kernel
theorem dX12_leafOf_14 : decode cX12_leafOf 14 = .ok (.iload_n 3, 1) := by decide +kernel
theorem dX12_leafOf_15 : decode cX12_leafOf 15 = .ok (.iload 4, 2) := by decide +kernel
theorem dX12_leafOf_17 : decode cX12_leafOf 17 = .ok (.iconst 1, 1) := by decide +kernel
theorem dX12_leafOf_18 : decode cX12_leafOf 18 = .ok (.iadd, 1) := by decide +kernel
theorem dX12_leafOf_19 : decode cX12_leafOf 19 = .ok (.aload_n 0, 1) := by decide +kernel
theorem dX12_leafOf_20 : decode cX12_leafOf 20 = .ok (.getfield 68, 3) := by decide +kernel
theorem dX12_leafOf_23 : decode cX12_leafOf 23 = .ok (.bipush 40, 2) := by decide +kernel
theorem dX12_leafOf_25 : decode cX12_leafOf 25 = .ok (.iload_n 1, 1) := by decide +kernel
theorem dX12_leafOf_26 : decode cX12_leafOf 26 = .ok (.imul, 1) := by decide +kernel
theorem dX12_leafOf_27 : decode cX12_leafOf 27 = .ok (.iload 4, 2) := by decide +kernel
theorem dX12_leafOf_29 : decode cX12_leafOf 29 = .ok (.iadd, 1) := by decide +kernel
theorem dX12_leafOf_30 : decode cX12_leafOf 30 = .ok (.iaload, 1) := by decide +kernel
theorem dX12_leafOf_31 : decode cX12_leafOf 31 = .ok (.imul, 1) := by decide +kernel
theorem dX12_leafOf_32 : decode cX12_leafOf 32 = .ok (.iadd, 1) := by decide +kernel
theorem dX12_leafOf_33 : decode cX12_leafOf 33 = .ok (.istore_n 3, 1) := by decide +kernel
theorem dX12_leafOf_34 : decode cX12_leafOf 34 = .ok (.iinc 4 8, 3) := by decide +kernel
theorem dX12_leafOf_37 : decode cX12_leafOf 37 = .ok (.goto (-32), 3) := by decide +kernel
theorem dX12_leafOf_40 : decode cX12_leafOf 40 = .ok (.iload_n 3, 1) := by decide +kernel
theorem dX12_leafOf_41 : decode cX12_leafOf 41 = .ok (.ireturn, 1) := by decide +kernel
theorem dX12_areUnlike_0 : decode cX12_areUnlike 0 = .ok (.iconst 0, 1) := by decide +kernel
theorem dX12_areUnlike_1 : decode cX12_areUnlike 1 = .ok (.istore 5, 2) := by decide +kernel
theorem dX12_areUnlike_3 : decode cX12_areUnlike 3 = .ok (.iload_n 3, 1) := by decide +kernel
theorem dX12_areUnlike_4 : decode cX12_areUnlike 4 = .ok (.istore 6, 2) := by decide +kernel
theorem dX12_areUnlike_6 : decode cX12_areUnlike 6 = .ok (.iload 6, 2) := by decide +kernel
theorem dX12_areUnlike_8 : decode cX12_areUnlike 8 = .ok (.iload_n 3, 1) := by decide +kernel
theorem dX12_areUnlike_9 : decode cX12_areUnlike 9 = .ok (.iload 4, 2) := by decide +kernel
theorem dX12_areUnlike_11 : decode cX12_areUnlike 11 = .ok (.iadd, 1) := by decide +kernel
theorem dX12_areUnlike_12 : decode cX12_areUnlike 12 = .ok (.if_icmp .ge 29, 3) := by decide +kernel
theorem dX12_areUnlike_15 : decode cX12_areUnlike 15 = .ok (.iload 5, 2) := by decide +kernel
theorem dX12_areUnlike_17 : decode cX12_areUnlike 17 = .ok (.aload_n 0, 1) := by decide +kernel
theorem dX12_areUnlike_18 : decode cX12_areUnlike 18 = .ok (.iload_n 1, 1) := by decide +kernel
theorem dX12_areUnlike_19 : decode cX12_areUnlike 19 = .ok (.iload 6, 2) := by decide +kernel
theorem dX12_areUnlike_21 : decode cX12_areUnlike 21 = .ok (.invokevirtual 300, 3) := by decide +kernel
theorem dX12_areUnlike_24 : decode cX12_areUnlike 24 = .ok (.aload_n 0, 1) := by decide +kernel
theorem dX12_areUnlike_25 : decode cX12_areUnlike 25 = .ok (.iload_n 2, 1) := by decide +kernel
theorem dX12_areUnlike_26 : decode cX12_areUnlike 26 = .ok (.iload 6, 2) := by decide +kernel
theorem dX12_areUnlike_28 : decode cX12_areUnlike 28 = .ok (.invokevirtual 300, 3) := by decide +kernel
theorem dX12_areUnlike_31 : decode cX12_areUnlike 31 = .ok (.isub, 1) := by decide +kernel
theorem dX12_areUnlike_32 : decode cX12_areUnlike 32 = .ok (.iadd, 1) := by decide +kernel
theorem dX12_areUnlike_33 : decode cX12_areUnlike 33 = .ok (.istore 5, 2) := by decide +kernel
theorem dX12_areUnlike_35 : decode cX12_areUnlike 35 = .ok (.iinc 6 1, 3) := by decide +kernel
theorem dX12_areUnlike_38 : decode cX12_areUnlike 38 = .ok (.goto (-32), 3) := by decide +kernel
theorem dX12_areUnlike_41 : decode cX12_areUnlike 41 = .ok (.iload 5, 2) := by decide +kernel
theorem dX12_areUnlike_43 : decode cX12_areUnlike 43 = .ok (.ifCond .eq 7, 3) := by decide +kernel
theorem dX12_areUnlike_46 : decode cX12_areUnlike 46 = .ok (.iconst 1, 1) := by decide +kernel
theorem dX12_areUnlike_47 : decode cX12_areUnlike 47 = .ok (.goto 4, 3) := by decide +kernel
theorem dX12_areUnlike_50 : decode cX12_areUnlike 50 = .ok (.iconst 0, 1) := by decide +kernel
theorem dX12_areUnlike_51 : decode cX12_areUnlike 51 = .ok (.ireturn, 1) := by decide +kernel
theorem dX12_wordsBelow_0 : decode cX12_wordsBelow 0 = .ok (.iload 4, 2) := by decide +kernel
theorem dX12_wordsBelow_2 : decode cX12_wordsBelow 2 = .ok (.iconst 1, 1) := by decide +kernel
theorem dX12_wordsBelow_3 : decode cX12_wordsBelow 3 = .ok (.if_icmp .eq 15, 3) := by decide +kernel
theorem dX12_wordsBelow_6 : decode cX12_wordsBelow 6 = .ok (.aload_n 0, 1) := by decide +kernel
theorem dX12_wordsBelow_7 : decode cX12_wordsBelow 7 = .ok (.iload_n 1, 1) := by decide +kernel
theorem dX12_wordsBelow_8 : decode cX12_wordsBelow 8 = .ok (.iload_n 2, 1) := by decide +kernel
theorem dX12_wordsBelow_9 : decode cX12_wordsBelow 9 = .ok (.iload_n 3, 1) := by decide +kernel
theorem dX12_wordsBelow_10 : decode cX12_wordsBelow 10 = .ok (.iload 4, 2) := by decide +kernel
theorem dX12_wordsBelow_12 : decode cX12_wordsBelow 12 = .ok (.invokevirtual 303, 3) := by decide +kernel
theorem dX12_wordsBelow_15 : decode cX12_wordsBelow 15 = .ok (.ifCond .ne 5, 3) := by decide +kernel
theorem dX12_wordsBelow_18 : decode cX12_wordsBelow 18 = .ok (.iconst 0, 1) := by decide +kernel
theorem dX12_wordsBelow_19 : decode cX12_wordsBelow 19 = .ok (.ireturn, 1) := by decide +kernel
theorem dX12_wordsBelow_20 : decode cX12_wordsBelow 20 = .ok (.iconst 2, 1) := by decide +kernel
theorem dX12_wordsBelow_21 : decode cX12_wordsBelow 21 = .ok (.aload_n 0, 1) := by decide +kernel
theorem dX12_wordsBelow_22 : decode cX12_wordsBelow 22 = .ok (.iload_n 1, 1) := by decide +kernel
theorem dX12_wordsBelow_23 : decode cX12_wordsBelow 23 = .ok (.iload_n 2, 1) := by decide +kernel
theorem dX12_wordsBelow_24 : decode cX12_wordsBelow 24 = .ok (.iload_n 3, 1) := by decide +kernel
theorem dX12_wordsBelow_25 : decode cX12_wordsBelow 25 = .ok (.iload 4, 2) := by decide +kernel
theorem dX12_wordsBelow_27 : decode cX12_wordsBelow 27 = .ok (.iconst 2, 1) := by decide +kernel
theorem dX12_wordsBelow_28 : decode cX12_wordsBelow 28 = .ok (.idiv, 1) := by decide +kernel
theorem dX12_wordsBelow_29 : decode cX12_wordsBelow 29 = .ok (.invokevirtual 307, 3) := by decide +kernel
theorem dX12_wordsBelow_32 : decode cX12_wordsBelow 32 = .ok (.iadd, 1) := by decide +kernel
theorem dX12_wordsBelow_33 : decode cX12_wordsBelow 33 = .ok (.aload_n 0, 1) := by decide +kernel
theorem dX12_wordsBelow_34 : decode cX12_wordsBelow 34 = .ok (.iload_n 1, 1) := by decide +kernel
theorem dX12_wordsBelow_35 : decode cX12_wordsBelow 35 = .ok (.iload_n 2, 1) := by decide +kernel
theorem dX12_wordsBelow_36 : decode cX12_wordsBelow 36 = .ok (.iload_n 3, 1) := by decide +kernel
theorem dX12_wordsBelow_37 : decode cX12_wordsBelow 37 = .ok (.iload 4, 2) := by decide +kernel
theorem dX12_wordsBelow_39 : decode cX12_wordsBelow 39 = .ok (.iconst 2, 1) := by decide +kernel
theorem dX12_wordsBelow_40 : decode cX12_wordsBelow 40 = .ok (.idiv, 1) := by decide +kernel
theorem dX12_wordsBelow_41 : decode cX12_wordsBelow 41 = .ok (.iadd, 1) := by decide +kernel
theorem dX12_wordsBelow_42 : decode cX12_wordsBelow 42 = .ok (.iload 4, 2) := by decide +kernel
theorem dX12_wordsBelow_44 : decode cX12_wordsBelow 44 = .ok (.iconst 2, 1) := by decide +kernel
theorem dX12_wordsBelow_45 : decode cX12_wordsBelow 45 = .ok (.idiv, 1) := by decide +kernel
theorem dX12_wordsBelow_46 : decode cX12_wordsBelow 46 = .ok (.invokevirtual 307, 3) := by decide +kernel
theorem dX12_wordsBelow_49 : decode cX12_wordsBelow 49 = .ok (.iadd, 1) := by decide +kernel
theorem dX12_wordsBelow_50 : decode cX12_wordsBelow 50 = .ok (.ireturn, 1) := by decide +kernel
theorem dX12_trees_8 : decode cX12_trees 8 = .ok (.aload_n 0, 1) := by decide +kernel
theorem dX12_trees_9 : decode cX12_trees 9 = .ok (.iload_n 2, 1) := by decide +kernel
theorem dX12_trees_10 : decode cX12_trees 10 = .ok (.invokevirtual 166, 3) := by decide +kernel
theorem dX12_trees_13 : decode cX12_trees 13 = .ok (.ifCond .eq 17, 3) := by decide +kernel
theorem dX12_trees_16 : decode cX12_trees 16 = .ok (.iload_n 1, 1) := by decide +kernel
theorem dX12_trees_17 : decode cX12_trees 17 = .ok (.iload_n 2, 1) := by decide +kernel
theorem dX12_trees_18 : decode cX12_trees 18 = .ok (.if_icmp .eq 12, 3) := by decide +kernel
theorem dX12_trees_21 : decode cX12_trees 21 = .ok (.iload_n 3, 1) := by decide +kernel
theorem dX12_trees_22 : decode cX12_trees 22 = .ok (.iconst 0, 1) := by decide +kernel
theorem dX12_trees_23 : decode cX12_trees 23 = .ok (.iconst 1, 1) := by decide +kernel
theorem dX12_trees_24 : decode cX12_trees 24 = .ok (.invokestatic 136, 3) := by decide +kernel
theorem dX12_trees_27 : decode cX12_trees 27 = .ok (.ifCond .ne 5, 3) := by decide +kernel
theorem dX12_trees_32 : decode cX12_trees 32 = .ok (.iload_n 3, 1) := by decide +kernel
theorem dX12_trees_33 : decode cX12_trees 33 = .ok (.ifCond .ne 15, 3) := by decide +kernel
theorem dX12_trees_36 : decode cX12_trees 36 = .ok (.iconst 1, 1) := by decide +kernel
theorem dX12_trees_37 : decode cX12_trees 37 = .ok (.aload_n 0, 1) := by decide +kernel
theorem dX12_trees_38 : decode cX12_trees 38 = .ok (.iload_n 1, 1) := by decide +kernel
theorem dX12_trees_39 : decode cX12_trees 39 = .ok (.iload_n 2, 1) := by decide +kernel
theorem dX12_trees_40 : decode cX12_trees 40 = .ok (.iconst 0, 1) := by decide +kernel
theorem dX12_trees_41 : decode cX12_trees 41 = .ok (.bipush 8, 2) := by decide +kernel
theorem dX12_trees_43 : decode cX12_trees 43 = .ok (.invokevirtual 307, 3) := by decide +kernel
theorem dX12_trees_46 : decode cX12_trees 46 = .ok (.iadd, 1) := by decide +kernel
theorem dX12_trees_47 : decode cX12_trees 47 = .ok (.ireturn, 1) := by decide +kernel
theorem dX12_trees_48 : decode cX12_trees 48 = .ok (.iconst 0, 1) := by decide +kernel
theorem dX12_trees_49 : decode cX12_trees 49 = .ok (.istore 4, 2) := by decide +kernel
theorem dX12_trees_51 : decode cX12_trees 51 = .ok (.iconst 0, 1) := by decide +kernel
theorem dX12_trees_52 : decode cX12_trees 52 = .ok (.istore 5, 2) := by decide +kernel
theorem dX12_trees_54 : decode cX12_trees 54 = .ok (.iload 5, 2) := by decide +kernel
theorem dX12_trees_56 : decode cX12_trees 56 = .ok (.bipush 8, 2) := by decide +kernel
theorem dX12_trees_58 : decode cX12_trees 58 = .ok (.if_icmp .ge 31, 3) := by decide +kernel
theorem dX12_trees_61 : decode cX12_trees 61 = .ok (.iload 4, 2) := by decide +kernel
theorem dX12_trees_63 : decode cX12_trees 63 = .ok (.aload_n 0, 1) := by decide +kernel
theorem dX12_trees_64 : decode cX12_trees 64 = .ok (.iload_n 1, 1) := by decide +kernel
theorem dX12_trees_65 : decode cX12_trees 65 = .ok (.iload_n 2, 1) := by decide +kernel
theorem dX12_trees_66 : decode cX12_trees 66 = .ok (.iload 5, 2) := by decide +kernel
theorem dX12_trees_68 : decode cX12_trees 68 = .ok (.iconst 1, 1) := by decide +kernel
theorem dX12_trees_69 : decode cX12_trees 69 = .ok (.invokevirtual 303, 3) := by decide +kernel
theorem dX12_trees_72 : decode cX12_trees 72 = .ok (.ifCond .eq 7, 3) := by decide +kernel
theorem dX12_trees_75 : decode cX12_trees 75 = .ok (.iconst 1, 1) := by decide +kernel
theorem dX12_trees_76 : decode cX12_trees 76 = .ok (.goto 4, 3) := by decide +kernel
theorem dX12_trees_79 : decode cX12_trees 79 = .ok (.iconst 0, 1) := by decide +kernel
theorem dX12_trees_80 : decode cX12_trees 80 = .ok (.iadd, 1) := by decide +kernel
theorem dX12_trees_81 : decode cX12_trees 81 = .ok (.istore 4, 2) := by decide +kernel
theorem dX12_trees_83 : decode cX12_trees 83 = .ok (.iinc 5 1, 3) := by decide +kernel
theorem dX12_trees_86 : decode cX12_trees 86 = .ok (.goto (-32), 3) := by decide +kernel
theorem dX12_trees_89 : decode cX12_trees 89 = .ok (.iload 4, 2) := by decide +kernel
theorem dX12_trees_91 : decode cX12_trees 91 = .ok (.ireturn, 1) := by decide +kernel
theorem dX12_noon_8 : decode cX12_noon 8 = .ok (.iload_n 2, 1) := by decide +kernel
theorem dX12_noon_9 : decode cX12_noon 9 = .ok (.iconst 0, 1) := by decide +kernel
theorem dX12_noon_10 : decode cX12_noon 10 = .ok (.sipush 9999, 3) := by decide +kernel
theorem dX12_noon_13 : decode cX12_noon 13 = .ok (.invokestatic 136, 3) := by decide +kernel
theorem dX12_noon_16 : decode cX12_noon 16 = .ok (.ifCond .eq 14, 3) := by decide +kernel
theorem dX12_noon_19 : decode cX12_noon 19 = .ok (.iload_n 3, 1) := by decide +kernel
theorem dX12_noon_20 : decode cX12_noon 20 = .ok (.iconst 0, 1) := by decide +kernel
theorem dX12_noon_21 : decode cX12_noon 21 = .ok (.sipush 9999, 3) := by decide +kernel
theorem dX12_noon_24 : decode cX12_noon 24 = .ok (.invokestatic 136, 3) := by decide +kernel
theorem dX12_noon_27 : decode cX12_noon 27 = .ok (.ifCond .ne 5, 3) := by decide +kernel
theorem dX12_noon_32 : decode cX12_noon 32 = .ok (.aload_n 0, 1) := by decide +kernel
theorem dX12_noon_33 : decode cX12_noon 33 = .ok (.getfield 32, 3) := by decide +kernel
theorem dX12_noon_36 : decode cX12_noon 36 = .ok (.iload_n 1, 1) := by decide +kernel
theorem dX12_noon_37 : decode cX12_noon 37 = .ok (.iaload, 1) := by decide +kernel
theorem dX12_noon_38 : decode cX12_noon 38 = .ok (.invokestatic 284, 3) := by decide +kernel
theorem dX12_noon_41 : decode cX12_noon 41 = .ok (.istore 4, 2) := by decide +kernel
theorem dX12_noon_43 : decode cX12_noon 43 = .ok (.iconst 1, 1) := by decide +kernel
theorem dX12_noon_44 : decode cX12_noon 44 = .ok (.istore 5, 2) := by decide +kernel
theorem dX12_noon_46 : decode cX12_noon 46 = .ok (.iload 5, 2) := by decide +kernel
theorem dX12_noon_48 : decode cX12_noon 48 = .ok (.iload 4, 2) := by decide +kernel
theorem dX12_noon_50 : decode cX12_noon 50 = .ok (.if_icmp .gt 25, 3) := by decide +kernel
theorem dX12_noon_53 : decode cX12_noon 53 = .ok (.iload_n 2, 1) := by decide +kernel
theorem dX12_noon_54 : decode cX12_noon 54 = .ok (.iload 5, 2) := by decide +kernel
theorem dX12_noon_56 : decode cX12_noon 56 = .ok (.iadd, 1) := by decide +kernel
theorem dX12_noon_57 : decode cX12_noon 57 = .ok (.iconst 1, 1) := by decide +kernel
theorem dX12_noon_58 : decode cX12_noon 58 = .ok (.isub, 1) := by decide +kernel
theorem dX12_noon_59 : decode cX12_noon 59 = .ok (.iload 5, 2) := by decide +kernel
theorem dX12_noon_61 : decode cX12_noon 61 = .ok (.idiv, 1) := by decide +kernel
theorem dX12_noon_62 : decode cX12_noon 62 = .ok (.iload_n 3, 1) := by decide +kernel
theorem dX12_noon_63 : decode cX12_noon 63 = .ok (.if_icmp .gt 6, 3) := by decide +kernel
theorem dX12_noon_66 : decode cX12_noon 66 = .ok (.iload 5, 2) := by decide +kernel
theorem dX12_noon_68 : decode cX12_noon 68 = .ok (.ireturn, 1) := by decide +kernel
theorem dX12_noon_69 : decode cX12_noon 69 = .ok (.iinc 5 1, 3) := by decide +kernel
theorem dX12_noon_72 : decode cX12_noon 72 = .ok (.goto (-26), 3) := by decide +kernel
theorem dX12_noon_75 : decode cX12_noon 75 = .ok (.bipush (-2), 2) := by decide +kernel
theorem dX12_noon_77 : decode cX12_noon 77 = .ok (.ireturn, 1) := by decide +kernel
theorem dX12_lies_8 : decode cX12_lies 8 = .ok (.iload_n 2, 1) := by decide +kernel
theorem dX12_lies_9 : decode cX12_lies 9 = .ok (.iconst 0, 1) := by decide +kernel
theorem dX12_lies_10 : decode cX12_lies 10 = .ok (.bipush 99, 2) := by decide +kernel
theorem dX12_lies_12 : decode cX12_lies 12 = .ok (.invokestatic 136, 3) := by decide +kernel
theorem dX12_lies_15 : decode cX12_lies 15 = .ok (.ifCond .eq 28, 3) := by decide +kernel
theorem dX12_lies_18 : decode cX12_lies 18 = .ok (.iload_n 3, 1) := by decide +kernel
theorem dX12_lies_19 : decode cX12_lies 19 = .ok (.iconst 1, 1) := by decide +kernel
theorem dX12_lies_20 : decode cX12_lies 20 = .ok (.bipush 99, 2) := by decide +kernel
theorem dX12_lies_22 : decode cX12_lies 22 = .ok (.invokestatic 136, 3) := by decide +kernel
theorem dX12_lies_25 : decode cX12_lies 25 = .ok (.ifCond .eq 18, 3) := by decide +kernel
theorem dX12_lies_28 : decode cX12_lies 28 = .ok (.iload_n 2, 1) := by decide +kernel
theorem dX12_lies_29 : decode cX12_lies 29 = .ok (.iload_n 3, 1) := by decide +kernel
theorem dX12_lies_30 : decode cX12_lies 30 = .ok (.if_icmp .gt 13, 3) := by decide +kernel
theorem dX12_lies_33 : decode cX12_lies 33 = .ok (.iload 4, 2) := by decide +kernel
theorem dX12_lies_35 : decode cX12_lies 35 = .ok (.iconst 0, 1) := by decide +kernel
theorem dX12_lies_36 : decode cX12_lies 36 = .ok (.iconst 1, 1) := by decide +kernel
theorem dX12_lies_37 : decode cX12_lies 37 = .ok (.invokestatic 136, 3) := by decide +kernel
theorem dX12_lies_40 : decode cX12_lies 40 = .ok (.ifCond .ne 5, 3) := by decide +kernel
theorem dX12_lies_45 : decode cX12_lies 45 = .ok (.aload_n 0, 1) := by decide +kernel
theorem dX12_lies_46 : decode cX12_lies 46 = .ok (.getfield 19, 3) := by decide +kernel
theorem dX12_lies_49 : decode cX12_lies 49 = .ok (.iload_n 1, 1) := by decide +kernel
theorem dX12_lies_50 : decode cX12_lies 50 = .ok (.iaload, 1) := by decide +kernel
theorem dX12_lies_51 : decode cX12_lies 51 = .ok (.iload_n 3, 1) := by decide +kernel
theorem dX12_lies_52 : decode cX12_lies 52 = .ok (.iload_n 2, 1) := by decide +kernel
theorem dX12_lies_53 : decode cX12_lies 53 = .ok (.isub, 1) := by decide +kernel
theorem dX12_lies_54 : decode cX12_lies 54 = .ok (.imul, 1) := by decide +kernel
theorem dX12_lies_55 : decode cX12_lies 55 = .ok (.iload_n 3, 1) := by decide +kernel
theorem dX12_lies_56 : decode cX12_lies 56 = .ok (.iadd, 1) := by decide +kernel
theorem dX12_lies_57 : decode cX12_lies 57 = .ok (.iconst 1, 1) := by decide +kernel
theorem dX12_lies_58 : decode cX12_lies 58 = .ok (.isub, 1) := by decide +kernel
theorem dX12_lies_59 : decode cX12_lies 59 = .ok (.iload_n 3, 1) := by decide +kernel
theorem dX12_lies_60 : decode cX12_lies 60 = .ok (.idiv, 1) := by decide +kernel
theorem dX12_lies_61 : decode cX12_lies 61 = .ok (.istore 5, 2) := by decide +kernel
theorem dX12_lies_63 : decode cX12_lies 63 = .ok (.iload 5, 2) := by decide +kernel
theorem dX12_lies_65 : decode cX12_lies 65 = .ok (.iconst 1, 1) := by decide +kernel
theorem dX12_lies_66 : decode cX12_lies 66 = .ok (.if_icmp .ge 7, 3) := by decide +kernel
theorem dX12_lies_69 : decode cX12_lies 69 = .ok (.iconst 1, 1) := by decide +kernel
theorem dX12_lies_70 : decode cX12_lies 70 = .ok (.goto 5, 3) := by decide +kernel
theorem dX12_lies_73 : decode cX12_lies 73 = .ok (.iload 5, 2) := by decide +kernel
theorem dX12_lies_75 : decode cX12_lies 75 = .ok (.istore 5, 2) := by decide +kernel
theorem dX12_lies_77 : decode cX12_lies 77 = .ok (.iload 4, 2) := by decide +kernel
theorem dX12_lies_79 : decode cX12_lies 79 = .ok (.ifCond .ne 8, 3) := by decide +kernel
theorem dX12_lies_82 : decode cX12_lies 82 = .ok (.iload 5, 2) := by decide +kernel
theorem dX12_lies_84 : decode cX12_lies 84 = .ok (.goto 14, 3) := by decide +kernel
theorem dX12_lies_87 : decode cX12_lies 87 = .ok (.iconst 4, 1) := by decide +kernel
theorem dX12_lies_88 : decode cX12_lies 88 = .ok (.aload_n 0, 1) := by decide +kernel
theorem dX12_lies_89 : decode cX12_lies 89 = .ok (.getfield 19, 3) := by decide +kernel
theorem dX12_lies_92 : decode cX12_lies 92 = .ok (.iload_n 1, 1) := by decide +kernel
theorem dX12_lies_93 : decode cX12_lies 93 = .ok (.iaload, 1) := by decide +kernel
theorem dX12_lies_94 : decode cX12_lies 94 = .ok (.iload 5, 2) := by decide +kernel
theorem dX12_lies_96 : decode cX12_lies 96 = .ok (.isub, 1) := by decide +kernel
theorem dX12_lies_97 : decode cX12_lies 97 = .ok (.imul, 1) := by decide +kernel
theorem dX12_lies_98 : decode cX12_lies 98 = .ok (.ireturn, 1) := by decide +kernel
theorem dX12_isComing_0 : decode cX12_isComing 0 = .ok (.iconst 0, 1) := by decide +kernel
theorem dX12_isComing_1 : decode cX12_isComing 1 = .ok (.istore_n 2, 1) := by decide +kernel
theorem dX12_isComing_2 : decode cX12_isComing 2 = .ok (.iload_n 2, 1) := by decide +kernel
theorem dX12_isComing_3 : decode cX12_isComing 3 = .ok (.aload_n 0, 1) := by decide +kernel
theorem dX12_isComing_4 : decode cX12_isComing 4 = .ok (.getfield 310, 3) := by decide +kernel
theorem dX12_isComing_7 : decode cX12_isComing 7 = .ok (.if_icmp .ge 21, 3) := by decide +kernel
theorem dX12_isComing_10 : decode cX12_isComing 10 = .ok (.aload_n 0, 1) := by decide +kernel
theorem dX12_isComing_11 : decode cX12_isComing 11 = .ok (.getfield 86, 3) := by decide +kernel
theorem dX12_isComing_14 : decode cX12_isComing 14 = .ok (.iload_n 2, 1) := by decide +kernel
theorem dX12_isComing_15 : decode cX12_isComing 15 = .ok (.iaload, 1) := by decide +kernel
theorem dX12_isComing_16 : decode cX12_isComing 16 = .ok (.iload_n 1, 1) := by decide +kernel
theorem dX12_isComing_17 : decode cX12_isComing 17 = .ok (.if_icmp .ne 5, 3) := by decide +kernel
theorem dX12_isComing_20 : decode cX12_isComing 20 = .ok (.iconst 1, 1) := by decide +kernel
theorem dX12_isComing_21 : decode cX12_isComing 21 = .ok (.ireturn, 1) := by decide +kernel
theorem dX12_isComing_22 : decode cX12_isComing 22 = .ok (.iinc 2 1, 3) := by decide +kernel
theorem dX12_isComing_25 : decode cX12_isComing 25 = .ok (.goto (-23), 3) := by decide +kernel
theorem dX12_isComing_28 : decode cX12_isComing 28 = .ok (.iconst 0, 1) := by decide +kernel
theorem dX12_isComing_29 : decode cX12_isComing 29 = .ok (.ireturn, 1) := by decide +kernel
theorem dX12_comes_8 : decode cX12_comes 8 = .ok (.aload_n 0, 1) := by decide +kernel
theorem dX12_comes_9 : decode cX12_comes 9 = .ok (.iload_n 1, 1) := by decide +kernel
theorem dX12_comes_10 : decode cX12_comes 10 = .ok (.invokevirtual 313, 3) := by decide +kernel
theorem dX12_comes_13 : decode cX12_comes 13 = .ok (.ifCond .eq 5, 3) := by decide +kernel
theorem dX12_comes_18 : decode cX12_comes 18 = .ok (.aload_n 0, 1) := by decide +kernel
theorem dX12_comes_19 : decode cX12_comes 19 = .ok (.getfield 310, 3) := by decide +kernel
theorem dX12_comes_22 : decode cX12_comes 22 = .ok (.iconst 5, 1) := by decide +kernel
theorem dX12_comes_23 : decode cX12_comes 23 = .ok (.if_icmp .ne 6, 3) := by decide +kernel
theorem dX12_comes_26 : decode cX12_comes 26 = .ok (.bipush (-3), 2) := by decide +kernel
theorem dX12_comes_28 : decode cX12_comes 28 = .ok (.ireturn, 1) := by decide +kernel
theorem dX12_comes_29 : decode cX12_comes 29 = .ok (.aload_n 0, 1) := by decide +kernel
theorem dX12_comes_30 : decode cX12_comes 30 = .ok (.getfield 86, 3) := by decide +kernel
theorem dX12_comes_33 : decode cX12_comes 33 = .ok (.aload_n 0, 1) := by decide +kernel
theorem dX12_comes_34 : decode cX12_comes 34 = .ok (.getfield 310, 3) := by decide +kernel
theorem dX12_comes_37 : decode cX12_comes 37 = .ok (.iload_n 1, 1) := by decide +kernel
theorem dX12_comes_38 : decode cX12_comes 38 = .ok (.iastore, 1) := by decide +kernel
theorem dX12_comes_39 : decode cX12_comes 39 = .ok (.aload_n 0, 1) := by decide +kernel
theorem dX12_comes_40 : decode cX12_comes 40 = .ok (.dup, 1) := by decide +kernel
theorem dX12_comes_41 : decode cX12_comes 41 = .ok (.getfield 310, 3) := by decide +kernel
theorem dX12_comes_44 : decode cX12_comes 44 = .ok (.iconst 1, 1) := by decide +kernel
theorem dX12_comes_45 : decode cX12_comes 45 = .ok (.iadd, 1) := by decide +kernel
theorem dX12_comes_46 : decode cX12_comes 46 = .ok (.putfield 310, 3) := by decide +kernel
theorem dX12_comes_49 : decode cX12_comes 49 = .ok (.aload_n 0, 1) := by decide +kernel
theorem dX12_comes_50 : decode cX12_comes 50 = .ok (.getfield 310, 3) := by decide +kernel
theorem dX12_comes_53 : decode cX12_comes 53 = .ok (.ireturn, 1) := by decide +kernel
theorem dX12_tries_0 : decode cX12_tries 0 = .ok (.aload_n 0, 1) := by decide +kernel
theorem dX12_tries_1 : decode cX12_tries 1 = .ok (.getfield 32, 3) := by decide +kernel
theorem dX12_tries_4 : decode cX12_tries 4 = .ok (.bipush 10, 2) := by decide +kernel
theorem dX12_tries_6 : decode cX12_tries 6 = .ok (.iload_n 2, 1) := by decide +kernel
theorem dX12_tries_7 : decode cX12_tries 7 = .ok (.iastore, 1) := by decide +kernel
theorem dX12_tries_8 : decode cX12_tries 8 = .ok (.aload_n 0, 1) := by decide +kernel
theorem dX12_tries_9 : decode cX12_tries 9 = .ok (.getfield 35, 3) := by decide +kernel
theorem dX12_tries_12 : decode cX12_tries 12 = .ok (.bipush 10, 2) := by decide +kernel
theorem dX12_tries_14 : decode cX12_tries 14 = .ok (.iload_n 3, 1) := by decide +kernel
theorem dX12_tries_15 : decode cX12_tries 15 = .ok (.iastore, 1) := by decide +kernel
theorem dX12_tries_16 : decode cX12_tries 16 = .ok (.aload_n 0, 1) := by decide +kernel
theorem dX12_tries_17 : decode cX12_tries 17 = .ok (.getfield 47, 3) := by decide +kernel
theorem dX12_tries_20 : decode cX12_tries 20 = .ok (.bipush 10, 2) := by decide +kernel
theorem dX12_tries_22 : decode cX12_tries 22 = .ok (.aload_n 0, 1) := by decide +kernel
theorem dX12_tries_23 : decode cX12_tries 23 = .ok (.getfield 47, 3) := by decide +kernel
theorem dX12_tries_26 : decode cX12_tries 26 = .ok (.iload_n 1, 1) := by decide +kernel
theorem dX12_tries_27 : decode cX12_tries 27 = .ok (.iaload, 1) := by decide +kernel
theorem dX12_tries_28 : decode cX12_tries 28 = .ok (.iastore, 1) := by decide +kernel
theorem dX12_tries_29 : decode cX12_tries 29 = .ok (.iconst 0, 1) := by decide +kernel
theorem dX12_tries_30 : decode cX12_tries 30 = .ok (.istore 4, 2) := by decide +kernel
theorem dX12_tries_32 : decode cX12_tries 32 = .ok (.iload 4, 2) := by decide +kernel
theorem dX12_tries_34 : decode cX12_tries 34 = .ok (.bipush 80, 2) := by decide +kernel
theorem dX12_tries_36 : decode cX12_tries 36 = .ok (.if_icmp .ge 32, 3) := by decide +kernel
theorem dX12_tries_39 : decode cX12_tries 39 = .ok (.aload_n 0, 1) := by decide +kernel
theorem dX12_tries_40 : decode cX12_tries 40 = .ok (.getfield 50, 3) := by decide +kernel
theorem dX12_tries_43 : decode cX12_tries 43 = .ok (.sipush 800, 3) := by decide +kernel
theorem dX12_tries_46 : decode cX12_tries 46 = .ok (.iload 4, 2) := by decide +kernel
theorem dX12_tries_48 : decode cX12_tries 48 = .ok (.iadd, 1) := by decide +kernel
theorem dX12_tries_49 : decode cX12_tries 49 = .ok (.aload_n 0, 1) := by decide +kernel
theorem dX12_tries_50 : decode cX12_tries 50 = .ok (.getfield 50, 3) := by decide +kernel
theorem dX12_tries_53 : decode cX12_tries 53 = .ok (.bipush 80, 2) := by decide +kernel
theorem dX12_tries_55 : decode cX12_tries 55 = .ok (.iload_n 1, 1) := by decide +kernel
theorem dX12_tries_56 : decode cX12_tries 56 = .ok (.imul, 1) := by decide +kernel
theorem dX12_tries_57 : decode cX12_tries 57 = .ok (.iload 4, 2) := by decide +kernel
theorem dX12_tries_59 : decode cX12_tries 59 = .ok (.iadd, 1) := by decide +kernel
theorem dX12_tries_60 : decode cX12_tries 60 = .ok (.iaload, 1) := by decide +kernel
theorem dX12_tries_61 : decode cX12_tries 61 = .ok (.iastore, 1) := by decide +kernel
theorem dX12_tries_62 : decode cX12_tries 62 = .ok (.iinc 4 1, 3) := by decide +kernel
theorem dX12_tries_65 : decode cX12_tries 65 = .ok (.goto (-33), 3) := by decide +kernel
theorem dX12_tries_68 : decode cX12_tries 68 = .ok (.iconst 0, 1) := by decide +kernel
theorem dX12_tries_69 : decode cX12_tries 69 = .ok (.istore 4, 2) := by decide +kernel
theorem dX12_tries_71 : decode cX12_tries 71 = .ok (.iload 4, 2) := by decide +kernel
theorem dX12_tries_73 : decode cX12_tries 73 = .ok (.aload_n 0, 1) := by decide +kernel
theorem dX12_tries_74 : decode cX12_tries 74 = .ok (.getfield 140, 3) := by decide +kernel
theorem dX12_tries_77 : decode cX12_tries 77 = .ok (.if_icmp .ge 92, 3) := by decide +kernel
theorem dX12_tries_80 : decode cX12_tries 80 = .ok (.aload_n 0, 1) := by decide +kernel
theorem dX12_tries_81 : decode cX12_tries 81 = .ok (.getfield 53, 3) := by decide +kernel
theorem dX12_tries_84 : decode cX12_tries 84 = .ok (.bipush 120, 2) := by decide +kernel
theorem dX12_tries_86 : decode cX12_tries 86 = .ok (.iload 4, 2) := by decide +kernel
theorem dX12_tries_88 : decode cX12_tries 88 = .ok (.iadd, 1) := by decide +kernel
theorem dX12_tries_89 : decode cX12_tries 89 = .ok (.aload_n 0, 1) := by decide +kernel
theorem dX12_tries_90 : decode cX12_tries 90 = .ok (.iload_n 1, 1) := by decide +kernel
theorem dX12_tries_91 : decode cX12_tries 91 = .ok (.iload 4, 2) := by decide +kernel
theorem dX12_tries_93 : decode cX12_tries 93 = .ok (.invokevirtual 223, 3) := by decide +kernel
theorem dX12_tries_96 : decode cX12_tries 96 = .ok (.ifCond .eq 18, 3) := by decide +kernel
theorem dX12_tries_99 : decode cX12_tries 99 = .ok (.aload_n 0, 1) := by decide +kernel
theorem dX12_tries_100 : decode cX12_tries 100 = .ok (.getfield 53, 3) := by decide +kernel
theorem dX12_tries_103 : decode cX12_tries 103 = .ok (.bipush 12, 2) := by decide +kernel
theorem dX12_tries_105 : decode cX12_tries 105 = .ok (.iload_n 1, 1) := by decide +kernel
theorem dX12_tries_106 : decode cX12_tries 106 = .ok (.imul, 1) := by decide +kernel
theorem dX12_tries_107 : decode cX12_tries 107 = .ok (.iload 4, 2) := by decide +kernel
theorem dX12_tries_109 : decode cX12_tries 109 = .ok (.iadd, 1) := by decide +kernel
theorem dX12_tries_110 : decode cX12_tries 110 = .ok (.iaload, 1) := by decide +kernel
theorem dX12_tries_111 : decode cX12_tries 111 = .ok (.goto 9, 3) := by decide +kernel
theorem dX12_tries_114 : decode cX12_tries 114 = .ok (.aload_n 0, 1) := by decide +kernel
theorem dX12_tries_115 : decode cX12_tries 115 = .ok (.iload 4, 2) := by decide +kernel
theorem dX12_tries_117 : decode cX12_tries 117 = .ok (.invokevirtual 170, 3) := by decide +kernel
theorem dX12_tries_120 : decode cX12_tries 120 = .ok (.iastore, 1) := by decide +kernel
theorem dX12_tries_121 : decode cX12_tries 121 = .ok (.aload_n 0, 1) := by decide +kernel
theorem dX12_tries_122 : decode cX12_tries 122 = .ok (.getfield 56, 3) := by decide +kernel
theorem dX12_tries_125 : decode cX12_tries 125 = .ok (.bipush 120, 2) := by decide +kernel
theorem dX12_tries_127 : decode cX12_tries 127 = .ok (.iload 4, 2) := by decide +kernel
theorem dX12_tries_129 : decode cX12_tries 129 = .ok (.iadd, 1) := by decide +kernel
theorem dX12_tries_130 : decode cX12_tries 130 = .ok (.aload_n 0, 1) := by decide +kernel
theorem dX12_tries_131 : decode cX12_tries 131 = .ok (.iload_n 1, 1) := by decide +kernel
theorem dX12_tries_132 : decode cX12_tries 132 = .ok (.iload 4, 2) := by decide +kernel
theorem dX12_tries_134 : decode cX12_tries 134 = .ok (.invokevirtual 223, 3) := by decide +kernel
theorem dX12_tries_137 : decode cX12_tries 137 = .ok (.ifCond .eq 18, 3) := by decide +kernel
theorem dX12_tries_140 : decode cX12_tries 140 = .ok (.aload_n 0, 1) := by decide +kernel
theorem dX12_tries_141 : decode cX12_tries 141 = .ok (.getfield 56, 3) := by decide +kernel
theorem dX12_tries_144 : decode cX12_tries 144 = .ok (.bipush 12, 2) := by decide +kernel
theorem dX12_tries_146 : decode cX12_tries 146 = .ok (.iload_n 1, 1) := by decide +kernel
theorem dX12_tries_147 : decode cX12_tries 147 = .ok (.imul, 1) := by decide +kernel
theorem dX12_tries_148 : decode cX12_tries 148 = .ok (.iload 4, 2) := by decide +kernel
theorem dX12_tries_150 : decode cX12_tries 150 = .ok (.iadd, 1) := by decide +kernel
theorem dX12_tries_151 : decode cX12_tries 151 = .ok (.iaload, 1) := by decide +kernel
theorem dX12_tries_152 : decode cX12_tries 152 = .ok (.goto 10, 3) := by decide +kernel
theorem dX12_tries_155 : decode cX12_tries 155 = .ok (.aload_n 0, 1) := by decide +kernel
theorem dX12_tries_156 : decode cX12_tries 156 = .ok (.getfield 16, 3) := by decide +kernel
theorem dX12_tries_159 : decode cX12_tries 159 = .ok (.iload 4, 2) := by decide +kernel
theorem dX12_tries_161 : decode cX12_tries 161 = .ok (.iaload, 1) := by decide +kernel
theorem dX12_tries_162 : decode cX12_tries 162 = .ok (.iastore, 1) := by decide +kernel
theorem dX12_tries_163 : decode cX12_tries 163 = .ok (.iinc 4 1, 3) := by decide +kernel
theorem dX12_tries_166 : decode cX12_tries 166 = .ok (.goto (-95), 3) := by decide +kernel
theorem dX12_tries_169 : decode cX12_tries 169 = .ok (.aload_n 0, 1) := by decide +kernel
theorem dX12_tries_170 : decode cX12_tries 170 = .ok (.bipush 10, 2) := by decide +kernel
theorem dX12_tries_172 : decode cX12_tries 172 = .ok (.invokevirtual 231, 3) := by decide +kernel
theorem dX12_tries_175 : decode cX12_tries 175 = .ok (.aload_n 0, 1) := by decide +kernel
theorem dX12_tries_176 : decode cX12_tries 176 = .ok (.bipush 10, 2) := by decide +kernel
theorem dX12_tries_178 : decode cX12_tries 178 = .ok (.invokevirtual 234, 3) := by decide +kernel
theorem dX12_tries_181 : decode cX12_tries 181 = .ok (.pop, 1) := by decide +kernel
theorem dX12_tries_182 : decode cX12_tries 182 = .ok (.aload_n 0, 1) := by decide +kernel
theorem dX12_tries_183 : decode cX12_tries 183 = .ok (.bipush 10, 2) := by decide +kernel
theorem dX12_tries_185 : decode cX12_tries 185 = .ok (.invokevirtual 237, 3) := by decide +kernel
theorem dX12_tries_188 : decode cX12_tries 188 = .ok (.return_, 1) := by decide +kernel
theorem dX12_setBy_0 : decode cX12_setBy 0 = .ok (.aload_n 0, 1) := by decide +kernel
theorem dX12_setBy_1 : decode cX12_setBy 1 = .ok (.getfield 32, 3) := by decide +kernel
theorem dX12_setBy_4 : decode cX12_setBy 4 = .ok (.iload_n 1, 1) := by decide +kernel
theorem dX12_setBy_5 : decode cX12_setBy 5 = .ok (.iaload, 1) := by decide +kernel
theorem dX12_setBy_6 : decode cX12_setBy 6 = .ok (.istore_n 3, 1) := by decide +kernel
theorem dX12_setBy_7 : decode cX12_setBy 7 = .ok (.iconst 0, 1) := by decide +kernel
theorem dX12_setBy_8 : decode cX12_setBy 8 = .ok (.istore 4, 2) := by decide +kernel
theorem dX12_setBy_10 : decode cX12_setBy 10 = .ok (.iload 4, 2) := by decide +kernel
theorem dX12_setBy_12 : decode cX12_setBy 12 = .ok (.aload_n 0, 1) := by decide +kernel
theorem dX12_setBy_13 : decode cX12_setBy 13 = .ok (.getfield 310, 3) := by decide +kernel
theorem dX12_setBy_16 : decode cX12_setBy 16 = .ok (.if_icmp .ge 26, 3) := by decide +kernel
theorem dX12_setBy_19 : decode cX12_setBy 19 = .ok (.iload_n 3, 1) := by decide +kernel
theorem dX12_setBy_20 : decode cX12_setBy 20 = .ok (.iload_n 2, 1) := by decide +kernel
theorem dX12_setBy_21 : decode cX12_setBy 21 = .ok (.iload 4, 2) := by decide +kernel
theorem dX12_setBy_23 : decode cX12_setBy 23 = .ok (.ishr, 1) := by decide +kernel
theorem dX12_setBy_24 : decode cX12_setBy 24 = .ok (.iconst 1, 1) := by decide +kernel
theorem dX12_setBy_25 : decode cX12_setBy 25 = .ok (.iand, 1) := by decide +kernel
theorem dX12_setBy_26 : decode cX12_setBy 26 = .ok (.aload_n 0, 1) := by decide +kernel
theorem dX12_setBy_27 : decode cX12_setBy 27 = .ok (.getfield 86, 3) := by decide +kernel
theorem dX12_setBy_30 : decode cX12_setBy 30 = .ok (.iload 4, 2) := by decide +kernel
theorem dX12_setBy_32 : decode cX12_setBy 32 = .ok (.iaload, 1) := by decide +kernel
end
section
theorem dX12_setBy_33 : decode cX12_setBy 33 = .ok (.ishl, 1) := by decide +kernel
theorem dX12_setBy_34 : decode cX12_setBy 34 = .ok (.ixor, 1) := by decide +kernel
theorem dX12_setBy_35 : decode cX12_setBy 35 = .ok (.istore_n 3, 1) := by decide +kernel
theorem dX12_setBy_36 : decode cX12_setBy 36 = .ok (.iinc 4 1, 3) := by decide +kernel
theorem dX12_setBy_39 : decode cX12_setBy 39 = .ok (.goto (-29), 3) := by decide +kernel
theorem dX12_setBy_42 : decode cX12_setBy 42 = .ok (.iload_n 3, 1) := by decide +kernel
theorem dX12_setBy_43 : decode cX12_setBy 43 = .ok (.ireturn, 1) := by decide +kernel
theorem dX12_nextOrder_0 : decode cX12_nextOrder 0 = .ok (.iload_n 1, 1) := by decide +kernel
theorem dX12_nextOrder_1 : decode cX12_nextOrder 1 = .ok (.iconst 2, 1) := by decide +kernel
theorem dX12_nextOrder_2 : decode cX12_nextOrder 2 = .ok (.isub, 1) := by decide +kernel
theorem dX12_nextOrder_3 : decode cX12_nextOrder 3 = .ok (.istore_n 2, 1) := by decide +kernel
theorem dX12_nextOrder_4 : decode cX12_nextOrder 4 = .ok (.iload_n 2, 1) := by decide +kernel
theorem dX12_nextOrder_5 : decode cX12_nextOrder 5 = .ok (.ifCond .lt 34, 3) := by decide +kernel
theorem dX12_nextOrder_8 : decode cX12_nextOrder 8 = .ok (.aload_n 0, 1) := by decide +kernel
theorem dX12_nextOrder_9 : decode cX12_nextOrder 9 = .ok (.getfield 130, 3) := by decide +kernel
theorem dX12_nextOrder_12 : decode cX12_nextOrder 12 = .ok (.iload_n 2, 1) := by decide +kernel
theorem dX12_nextOrder_13 : decode cX12_nextOrder 13 = .ok (.ifCond .ge 7, 3) := by decide +kernel
theorem dX12_nextOrder_16 : decode cX12_nextOrder 16 = .ok (.iconst 0, 1) := by decide +kernel
theorem dX12_nextOrder_17 : decode cX12_nextOrder 17 = .ok (.goto 4, 3) := by decide +kernel
theorem dX12_nextOrder_20 : decode cX12_nextOrder 20 = .ok (.iload_n 2, 1) := by decide +kernel
theorem dX12_nextOrder_21 : decode cX12_nextOrder 21 = .ok (.iaload, 1) := by decide +kernel
theorem dX12_nextOrder_22 : decode cX12_nextOrder 22 = .ok (.aload_n 0, 1) := by decide +kernel
theorem dX12_nextOrder_23 : decode cX12_nextOrder 23 = .ok (.getfield 130, 3) := by decide +kernel
theorem dX12_nextOrder_26 : decode cX12_nextOrder 26 = .ok (.iload_n 2, 1) := by decide +kernel
theorem dX12_nextOrder_27 : decode cX12_nextOrder 27 = .ok (.iconst 1, 1) := by decide +kernel
theorem dX12_nextOrder_28 : decode cX12_nextOrder 28 = .ok (.iadd, 1) := by decide +kernel
theorem dX12_nextOrder_29 : decode cX12_nextOrder 29 = .ok (.iaload, 1) := by decide +kernel
theorem dX12_nextOrder_30 : decode cX12_nextOrder 30 = .ok (.if_icmp .le 9, 3) := by decide +kernel
theorem dX12_nextOrder_33 : decode cX12_nextOrder 33 = .ok (.iinc 2 (-1), 3) := by decide +kernel
theorem dX12_nextOrder_36 : decode cX12_nextOrder 36 = .ok (.goto (-32), 3) := by decide +kernel
theorem dX12_nextOrder_39 : decode cX12_nextOrder 39 = .ok (.iload_n 2, 1) := by decide +kernel
theorem dX12_nextOrder_40 : decode cX12_nextOrder 40 = .ok (.ifCond .ge 5, 3) := by decide +kernel
theorem dX12_nextOrder_43 : decode cX12_nextOrder 43 = .ok (.iconst 0, 1) := by decide +kernel
theorem dX12_nextOrder_44 : decode cX12_nextOrder 44 = .ok (.ireturn, 1) := by decide +kernel
theorem dX12_nextOrder_45 : decode cX12_nextOrder 45 = .ok (.iload_n 1, 1) := by decide +kernel
theorem dX12_nextOrder_46 : decode cX12_nextOrder 46 = .ok (.iconst 1, 1) := by decide +kernel
theorem dX12_nextOrder_47 : decode cX12_nextOrder 47 = .ok (.isub, 1) := by decide +kernel
theorem dX12_nextOrder_48 : decode cX12_nextOrder 48 = .ok (.istore_n 3, 1) := by decide +kernel
theorem dX12_nextOrder_49 : decode cX12_nextOrder 49 = .ok (.aload_n 0, 1) := by decide +kernel
theorem dX12_nextOrder_50 : decode cX12_nextOrder 50 = .ok (.getfield 130, 3) := by decide +kernel
theorem dX12_nextOrder_53 : decode cX12_nextOrder 53 = .ok (.iload_n 3, 1) := by decide +kernel
theorem dX12_nextOrder_54 : decode cX12_nextOrder 54 = .ok (.iaload, 1) := by decide +kernel
theorem dX12_nextOrder_55 : decode cX12_nextOrder 55 = .ok (.aload_n 0, 1) := by decide +kernel
theorem dX12_nextOrder_56 : decode cX12_nextOrder 56 = .ok (.getfield 130, 3) := by decide +kernel
theorem dX12_nextOrder_59 : decode cX12_nextOrder 59 = .ok (.iload_n 2, 1) := by decide +kernel
theorem dX12_nextOrder_60 : decode cX12_nextOrder 60 = .ok (.iaload, 1) := by decide +kernel
theorem dX12_nextOrder_61 : decode cX12_nextOrder 61 = .ok (.if_icmp .ge 9, 3) := by decide +kernel
theorem dX12_nextOrder_64 : decode cX12_nextOrder 64 = .ok (.iinc 3 (-1), 3) := by decide +kernel
theorem dX12_nextOrder_67 : decode cX12_nextOrder 67 = .ok (.goto (-18), 3) := by decide +kernel
theorem dX12_nextOrder_70 : decode cX12_nextOrder 70 = .ok (.aload_n 0, 1) := by decide +kernel
theorem dX12_nextOrder_71 : decode cX12_nextOrder 71 = .ok (.getfield 130, 3) := by decide +kernel
theorem dX12_nextOrder_74 : decode cX12_nextOrder 74 = .ok (.iload_n 2, 1) := by decide +kernel
theorem dX12_nextOrder_75 : decode cX12_nextOrder 75 = .ok (.iaload, 1) := by decide +kernel
theorem dX12_nextOrder_76 : decode cX12_nextOrder 76 = .ok (.istore 4, 2) := by decide +kernel
theorem dX12_nextOrder_78 : decode cX12_nextOrder 78 = .ok (.aload_n 0, 1) := by decide +kernel
theorem dX12_nextOrder_79 : decode cX12_nextOrder 79 = .ok (.getfield 130, 3) := by decide +kernel
theorem dX12_nextOrder_82 : decode cX12_nextOrder 82 = .ok (.iload_n 2, 1) := by decide +kernel
theorem dX12_nextOrder_83 : decode cX12_nextOrder 83 = .ok (.aload_n 0, 1) := by decide +kernel
theorem dX12_nextOrder_84 : decode cX12_nextOrder 84 = .ok (.getfield 130, 3) := by decide +kernel
theorem dX12_nextOrder_87 : decode cX12_nextOrder 87 = .ok (.iload_n 3, 1) := by decide +kernel
theorem dX12_nextOrder_88 : decode cX12_nextOrder 88 = .ok (.iaload, 1) := by decide +kernel
theorem dX12_nextOrder_89 : decode cX12_nextOrder 89 = .ok (.iastore, 1) := by decide +kernel
theorem dX12_nextOrder_90 : decode cX12_nextOrder 90 = .ok (.aload_n 0, 1) := by decide +kernel
theorem dX12_nextOrder_91 : decode cX12_nextOrder 91 = .ok (.getfield 130, 3) := by decide +kernel
theorem dX12_nextOrder_94 : decode cX12_nextOrder 94 = .ok (.iload_n 3, 1) := by decide +kernel
theorem dX12_nextOrder_95 : decode cX12_nextOrder 95 = .ok (.iload 4, 2) := by decide +kernel
theorem dX12_nextOrder_97 : decode cX12_nextOrder 97 = .ok (.iastore, 1) := by decide +kernel
theorem dX12_nextOrder_98 : decode cX12_nextOrder 98 = .ok (.iload_n 1, 1) := by decide +kernel
theorem dX12_nextOrder_99 : decode cX12_nextOrder 99 = .ok (.iconst 1, 1) := by decide +kernel
theorem dX12_nextOrder_100 : decode cX12_nextOrder 100 = .ok (.isub, 1) := by decide +kernel
theorem dX12_nextOrder_101 : decode cX12_nextOrder 101 = .ok (.istore 5, 2) := by decide +kernel
theorem dX12_nextOrder_103 : decode cX12_nextOrder 103 = .ok (.iload_n 2, 1) := by decide +kernel
theorem dX12_nextOrder_104 : decode cX12_nextOrder 104 = .ok (.iconst 1, 1) := by decide +kernel
theorem dX12_nextOrder_105 : decode cX12_nextOrder 105 = .ok (.iadd, 1) := by decide +kernel
theorem dX12_nextOrder_106 : decode cX12_nextOrder 106 = .ok (.istore 6, 2) := by decide +kernel
theorem dX12_nextOrder_108 : decode cX12_nextOrder 108 = .ok (.iload 6, 2) := by decide +kernel
theorem dX12_nextOrder_110 : decode cX12_nextOrder 110 = .ok (.iload 5, 2) := by decide +kernel
theorem dX12_nextOrder_112 : decode cX12_nextOrder 112 = .ok (.if_icmp .ge 44, 3) := by decide +kernel
theorem dX12_nextOrder_115 : decode cX12_nextOrder 115 = .ok (.aload_n 0, 1) := by decide +kernel
theorem dX12_nextOrder_116 : decode cX12_nextOrder 116 = .ok (.getfield 130, 3) := by decide +kernel
theorem dX12_nextOrder_119 : decode cX12_nextOrder 119 = .ok (.iload 6, 2) := by decide +kernel
theorem dX12_nextOrder_121 : decode cX12_nextOrder 121 = .ok (.iaload, 1) := by decide +kernel
theorem dX12_nextOrder_122 : decode cX12_nextOrder 122 = .ok (.istore 7, 2) := by decide +kernel
theorem dX12_nextOrder_124 : decode cX12_nextOrder 124 = .ok (.aload_n 0, 1) := by decide +kernel
theorem dX12_nextOrder_125 : decode cX12_nextOrder 125 = .ok (.getfield 130, 3) := by decide +kernel
theorem dX12_nextOrder_128 : decode cX12_nextOrder 128 = .ok (.iload 6, 2) := by decide +kernel
theorem dX12_nextOrder_130 : decode cX12_nextOrder 130 = .ok (.aload_n 0, 1) := by decide +kernel
theorem dX12_nextOrder_131 : decode cX12_nextOrder 131 = .ok (.getfield 130, 3) := by decide +kernel
theorem dX12_nextOrder_134 : decode cX12_nextOrder 134 = .ok (.iload 5, 2) := by decide +kernel
theorem dX12_nextOrder_136 : decode cX12_nextOrder 136 = .ok (.iaload, 1) := by decide +kernel
theorem dX12_nextOrder_137 : decode cX12_nextOrder 137 = .ok (.iastore, 1) := by decide +kernel
theorem dX12_nextOrder_138 : decode cX12_nextOrder 138 = .ok (.aload_n 0, 1) := by decide +kernel
theorem dX12_nextOrder_139 : decode cX12_nextOrder 139 = .ok (.getfield 130, 3) := by decide +kernel
theorem dX12_nextOrder_142 : decode cX12_nextOrder 142 = .ok (.iload 5, 2) := by decide +kernel
theorem dX12_nextOrder_144 : decode cX12_nextOrder 144 = .ok (.iload 7, 2) := by decide +kernel
theorem dX12_nextOrder_146 : decode cX12_nextOrder 146 = .ok (.iastore, 1) := by decide +kernel
theorem dX12_nextOrder_147 : decode cX12_nextOrder 147 = .ok (.iinc 5 (-1), 3) := by decide +kernel
theorem dX12_nextOrder_150 : decode cX12_nextOrder 150 = .ok (.iinc 6 1, 3) := by decide +kernel
theorem dX12_nextOrder_153 : decode cX12_nextOrder 153 = .ok (.goto (-45), 3) := by decide +kernel
theorem dX12_nextOrder_156 : decode cX12_nextOrder 156 = .ok (.iconst 1, 1) := by decide +kernel
theorem dX12_nextOrder_157 : decode cX12_nextOrder 157 = .ok (.ireturn, 1) := by decide +kernel
theorem dX12_movesBy_0 : decode cX12_movesBy 0 = .ok (.iconst 0, 1) := by decide +kernel
theorem dX12_movesBy_1 : decode cX12_movesBy 1 = .ok (.istore_n 2, 1) := by decide +kernel
theorem dX12_movesBy_2 : decode cX12_movesBy 2 = .ok (.iconst 0, 1) := by decide +kernel
theorem dX12_movesBy_3 : decode cX12_movesBy 3 = .ok (.istore_n 3, 1) := by decide +kernel
theorem dX12_movesBy_4 : decode cX12_movesBy 4 = .ok (.iconst 0, 1) := by decide +kernel
theorem dX12_movesBy_5 : decode cX12_movesBy 5 = .ok (.istore 4, 2) := by decide +kernel
theorem dX12_movesBy_7 : decode cX12_movesBy 7 = .ok (.iload 4, 2) := by decide +kernel
theorem dX12_movesBy_9 : decode cX12_movesBy 9 = .ok (.aload_n 0, 1) := by decide +kernel
theorem dX12_movesBy_10 : decode cX12_movesBy 10 = .ok (.getfield 310, 3) := by decide +kernel
theorem dX12_movesBy_13 : decode cX12_movesBy 13 = .ok (.if_icmp .ge 89, 3) := by decide +kernel
theorem dX12_movesBy_16 : decode cX12_movesBy 16 = .ok (.iload_n 3, 1) := by decide +kernel
theorem dX12_movesBy_17 : decode cX12_movesBy 17 = .ok (.iconst 1, 1) := by decide +kernel
theorem dX12_movesBy_18 : decode cX12_movesBy 18 = .ok (.aload_n 0, 1) := by decide +kernel
theorem dX12_movesBy_19 : decode cX12_movesBy 19 = .ok (.getfield 130, 3) := by decide +kernel
theorem dX12_movesBy_22 : decode cX12_movesBy 22 = .ok (.iload 4, 2) := by decide +kernel
theorem dX12_movesBy_24 : decode cX12_movesBy 24 = .ok (.iaload, 1) := by decide +kernel
theorem dX12_movesBy_25 : decode cX12_movesBy 25 = .ok (.ishl, 1) := by decide +kernel
theorem dX12_movesBy_26 : decode cX12_movesBy 26 = .ok (.ior, 1) := by decide +kernel
theorem dX12_movesBy_27 : decode cX12_movesBy 27 = .ok (.istore 5, 2) := by decide +kernel
theorem dX12_movesBy_29 : decode cX12_movesBy 29 = .ok (.aload_n 0, 1) := by decide +kernel
theorem dX12_movesBy_30 : decode cX12_movesBy 30 = .ok (.iload_n 1, 1) := by decide +kernel
theorem dX12_movesBy_31 : decode cX12_movesBy 31 = .ok (.iload 5, 2) := by decide +kernel
theorem dX12_movesBy_33 : decode cX12_movesBy 33 = .ok (.invokevirtual 316, 3) := by decide +kernel
theorem dX12_movesBy_36 : decode cX12_movesBy 36 = .ok (.ifCond .ne 5, 3) := by decide +kernel
theorem dX12_movesBy_39 : decode cX12_movesBy 39 = .ok (.iconst (-1), 1) := by decide +kernel
theorem dX12_movesBy_40 : decode cX12_movesBy 40 = .ok (.ireturn, 1) := by decide +kernel
theorem dX12_movesBy_41 : decode cX12_movesBy 41 = .ok (.iconst 0, 1) := by decide +kernel
theorem dX12_movesBy_42 : decode cX12_movesBy 42 = .ok (.istore 6, 2) := by decide +kernel
theorem dX12_movesBy_44 : decode cX12_movesBy 44 = .ok (.iload 6, 2) := by decide +kernel
theorem dX12_movesBy_46 : decode cX12_movesBy 46 = .ok (.aload_n 0, 1) := by decide +kernel
theorem dX12_movesBy_47 : decode cX12_movesBy 47 = .ok (.getfield 133, 3) := by decide +kernel
theorem dX12_movesBy_50 : decode cX12_movesBy 50 = .ok (.if_icmp .ge 43, 3) := by decide +kernel
theorem dX12_movesBy_53 : decode cX12_movesBy 53 = .ok (.iload_n 2, 1) := by decide +kernel
theorem dX12_movesBy_54 : decode cX12_movesBy 54 = .ok (.aload_n 0, 1) := by decide +kernel
theorem dX12_movesBy_55 : decode cX12_movesBy 55 = .ok (.getfield 127, 3) := by decide +kernel
theorem dX12_movesBy_58 : decode cX12_movesBy 58 = .ok (.bipush 40, 2) := by decide +kernel
theorem dX12_movesBy_60 : decode cX12_movesBy 60 = .ok (.iload 5, 2) := by decide +kernel
theorem dX12_movesBy_62 : decode cX12_movesBy 62 = .ok (.imul, 1) := by decide +kernel
theorem dX12_movesBy_63 : decode cX12_movesBy 63 = .ok (.iload 6, 2) := by decide +kernel
theorem dX12_movesBy_65 : decode cX12_movesBy 65 = .ok (.iadd, 1) := by decide +kernel
theorem dX12_movesBy_66 : decode cX12_movesBy 66 = .ok (.iaload, 1) := by decide +kernel
theorem dX12_movesBy_67 : decode cX12_movesBy 67 = .ok (.aload_n 0, 1) := by decide +kernel
theorem dX12_movesBy_68 : decode cX12_movesBy 68 = .ok (.getfield 127, 3) := by decide +kernel
theorem dX12_movesBy_71 : decode cX12_movesBy 71 = .ok (.bipush 40, 2) := by decide +kernel
theorem dX12_movesBy_73 : decode cX12_movesBy 73 = .ok (.iload_n 3, 1) := by decide +kernel
theorem dX12_movesBy_74 : decode cX12_movesBy 74 = .ok (.imul, 1) := by decide +kernel
theorem dX12_movesBy_75 : decode cX12_movesBy 75 = .ok (.iload 6, 2) := by decide +kernel
theorem dX12_movesBy_77 : decode cX12_movesBy 77 = .ok (.iadd, 1) := by decide +kernel
theorem dX12_movesBy_78 : decode cX12_movesBy 78 = .ok (.iaload, 1) := by decide +kernel
theorem dX12_movesBy_79 : decode cX12_movesBy 79 = .ok (.iconst (-1), 1) := by decide +kernel
theorem dX12_movesBy_80 : decode cX12_movesBy 80 = .ok (.ixor, 1) := by decide +kernel
theorem dX12_movesBy_81 : decode cX12_movesBy 81 = .ok (.iand, 1) := by decide +kernel
theorem dX12_movesBy_82 : decode cX12_movesBy 82 = .ok (.invokestatic 284, 3) := by decide +kernel
theorem dX12_movesBy_85 : decode cX12_movesBy 85 = .ok (.iadd, 1) := by decide +kernel
theorem dX12_movesBy_86 : decode cX12_movesBy 86 = .ok (.istore_n 2, 1) := by decide +kernel
theorem dX12_movesBy_87 : decode cX12_movesBy 87 = .ok (.iinc 6 1, 3) := by decide +kernel
theorem dX12_movesBy_90 : decode cX12_movesBy 90 = .ok (.goto (-46), 3) := by decide +kernel
theorem dX12_movesBy_93 : decode cX12_movesBy 93 = .ok (.iload 5, 2) := by decide +kernel
theorem dX12_movesBy_95 : decode cX12_movesBy 95 = .ok (.istore_n 3, 1) := by decide +kernel
theorem dX12_movesBy_96 : decode cX12_movesBy 96 = .ok (.iinc 4 1, 3) := by decide +kernel
theorem dX12_movesBy_99 : decode cX12_movesBy 99 = .ok (.goto (-92), 3) := by decide +kernel
theorem dX12_movesBy_102 : decode cX12_movesBy 102 = .ok (.iload_n 2, 1) := by decide +kernel
theorem dX12_movesBy_103 : decode cX12_movesBy 103 = .ok (.ireturn, 1) := by decide +kernel
theorem dX12_order_8 : decode cX12_order 8 = .ok (.aload_n 0, 1) := by decide +kernel
theorem dX12_order_9 : decode cX12_order 9 = .ok (.getfield 310, 3) := by decide +kernel
theorem dX12_order_12 : decode cX12_order 12 = .ok (.ifCond .ne 5, 3) := by decide +kernel
theorem dX12_order_17 : decode cX12_order 17 = .ok (.iconst 0, 1) := by decide +kernel
theorem dX12_order_18 : decode cX12_order 18 = .ok (.istore_n 2, 1) := by decide +kernel
theorem dX12_order_19 : decode cX12_order 19 = .ok (.iload_n 2, 1) := by decide +kernel
theorem dX12_order_20 : decode cX12_order 20 = .ok (.iconst 1, 1) := by decide +kernel
theorem dX12_order_21 : decode cX12_order 21 = .ok (.aload_n 0, 1) := by decide +kernel
theorem dX12_order_22 : decode cX12_order 22 = .ok (.getfield 310, 3) := by decide +kernel
theorem dX12_order_25 : decode cX12_order 25 = .ok (.ishl, 1) := by decide +kernel
theorem dX12_order_26 : decode cX12_order 26 = .ok (.if_icmp .ge 73, 3) := by decide +kernel
theorem dX12_order_29 : decode cX12_order 29 = .ok (.aload_n 0, 1) := by decide +kernel
theorem dX12_order_30 : decode cX12_order 30 = .ok (.iload_n 1, 1) := by decide +kernel
theorem dX12_order_31 : decode cX12_order 31 = .ok (.iload_n 2, 1) := by decide +kernel
theorem dX12_order_32 : decode cX12_order 32 = .ok (.invokevirtual 316, 3) := by decide +kernel
theorem dX12_order_35 : decode cX12_order 35 = .ok (.ifCond .eq 58, 3) := by decide +kernel
theorem dX12_order_38 : decode cX12_order 38 = .ok (.aload_n 0, 1) := by decide +kernel
theorem dX12_order_39 : decode cX12_order 39 = .ok (.iload_n 1, 1) := by decide +kernel
theorem dX12_order_40 : decode cX12_order 40 = .ok (.aload_n 0, 1) := by decide +kernel
theorem dX12_order_41 : decode cX12_order 41 = .ok (.iload_n 1, 1) := by decide +kernel
theorem dX12_order_42 : decode cX12_order 42 = .ok (.iload_n 2, 1) := by decide +kernel
theorem dX12_order_43 : decode cX12_order 43 = .ok (.invokevirtual 316, 3) := by decide +kernel
theorem dX12_order_46 : decode cX12_order 46 = .ok (.aload_n 0, 1) := by decide +kernel
theorem dX12_order_47 : decode cX12_order 47 = .ok (.getfield 35, 3) := by decide +kernel
theorem dX12_order_50 : decode cX12_order 50 = .ok (.iload_n 1, 1) := by decide +kernel
theorem dX12_order_51 : decode cX12_order 51 = .ok (.iaload, 1) := by decide +kernel
theorem dX12_order_52 : decode cX12_order 52 = .ok (.invokevirtual 319, 3) := by decide +kernel
theorem dX12_order_55 : decode cX12_order 55 = .ok (.iconst 0, 1) := by decide +kernel
theorem dX12_order_56 : decode cX12_order 56 = .ok (.istore_n 3, 1) := by decide +kernel
theorem dX12_order_57 : decode cX12_order 57 = .ok (.iload_n 3, 1) := by decide +kernel
theorem dX12_order_58 : decode cX12_order 58 = .ok (.aload_n 0, 1) := by decide +kernel
theorem dX12_order_59 : decode cX12_order 59 = .ok (.getfield 133, 3) := by decide +kernel
theorem dX12_order_62 : decode cX12_order 62 = .ok (.if_icmp .ge 31, 3) := by decide +kernel
theorem dX12_order_65 : decode cX12_order 65 = .ok (.aload_n 0, 1) := by decide +kernel
theorem dX12_order_66 : decode cX12_order 66 = .ok (.bipush 10, 2) := by decide +kernel
theorem dX12_order_68 : decode cX12_order 68 = .ok (.iload_n 3, 1) := by decide +kernel
theorem dX12_order_69 : decode cX12_order 69 = .ok (.invokevirtual 269, 3) := by decide +kernel
theorem dX12_order_72 : decode cX12_order 72 = .ok (.aload_n 0, 1) := by decide +kernel
theorem dX12_order_73 : decode cX12_order 73 = .ok (.getfield 127, 3) := by decide +kernel
theorem dX12_order_76 : decode cX12_order 76 = .ok (.bipush 40, 2) := by decide +kernel
theorem dX12_order_78 : decode cX12_order 78 = .ok (.iload_n 2, 1) := by decide +kernel
theorem dX12_order_79 : decode cX12_order 79 = .ok (.imul, 1) := by decide +kernel
theorem dX12_order_80 : decode cX12_order 80 = .ok (.iload_n 3, 1) := by decide +kernel
theorem dX12_order_81 : decode cX12_order 81 = .ok (.iadd, 1) := by decide +kernel
theorem dX12_order_82 : decode cX12_order 82 = .ok (.aload_n 0, 1) := by decide +kernel
theorem dX12_order_83 : decode cX12_order 83 = .ok (.invokevirtual 281, 3) := by decide +kernel
theorem dX12_order_86 : decode cX12_order 86 = .ok (.iastore, 1) := by decide +kernel
theorem dX12_order_87 : decode cX12_order 87 = .ok (.iinc 3 1, 3) := by decide +kernel
theorem dX12_order_90 : decode cX12_order 90 = .ok (.goto (-33), 3) := by decide +kernel
theorem dX12_order_93 : decode cX12_order 93 = .ok (.iinc 2 1, 3) := by decide +kernel
theorem dX12_order_96 : decode cX12_order 96 = .ok (.goto (-77), 3) := by decide +kernel
theorem dX12_order_99 : decode cX12_order 99 = .ok (.iconst 0, 1) := by decide +kernel
theorem dX12_order_100 : decode cX12_order 100 = .ok (.istore_n 2, 1) := by decide +kernel
theorem dX12_order_101 : decode cX12_order 101 = .ok (.iload_n 2, 1) := by decide +kernel
theorem dX12_order_102 : decode cX12_order 102 = .ok (.aload_n 0, 1) := by decide +kernel
theorem dX12_order_103 : decode cX12_order 103 = .ok (.getfield 310, 3) := by decide +kernel
theorem dX12_order_106 : decode cX12_order 106 = .ok (.if_icmp .ge 16, 3) := by decide +kernel
theorem dX12_order_109 : decode cX12_order 109 = .ok (.aload_n 0, 1) := by decide +kernel
theorem dX12_order_110 : decode cX12_order 110 = .ok (.getfield 130, 3) := by decide +kernel
theorem dX12_order_113 : decode cX12_order 113 = .ok (.iload_n 2, 1) := by decide +kernel
theorem dX12_order_114 : decode cX12_order 114 = .ok (.iload_n 2, 1) := by decide +kernel
theorem dX12_order_115 : decode cX12_order 115 = .ok (.iastore, 1) := by decide +kernel
theorem dX12_order_116 : decode cX12_order 116 = .ok (.iinc 2 1, 3) := by decide +kernel
theorem dX12_order_119 : decode cX12_order 119 = .ok (.goto (-18), 3) := by decide +kernel
theorem dX12_order_122 : decode cX12_order 122 = .ok (.iconst (-1), 1) := by decide +kernel
theorem dX12_order_123 : decode cX12_order 123 = .ok (.istore_n 2, 1) := by decide +kernel
theorem dX12_order_124 : decode cX12_order 124 = .ok (.iconst 1, 1) := by decide +kernel
theorem dX12_order_125 : decode cX12_order 125 = .ok (.istore_n 3, 1) := by decide +kernel
theorem dX12_order_126 : decode cX12_order 126 = .ok (.iload_n 3, 1) := by decide +kernel
theorem dX12_order_127 : decode cX12_order 127 = .ok (.ifCond .eq 80, 3) := by decide +kernel
theorem dX12_order_130 : decode cX12_order 130 = .ok (.aload_n 0, 1) := by decide +kernel
theorem dX12_order_131 : decode cX12_order 131 = .ok (.iload_n 1, 1) := by decide +kernel
theorem dX12_order_132 : decode cX12_order 132 = .ok (.invokevirtual 322, 3) := by decide +kernel
theorem dX12_order_135 : decode cX12_order 135 = .ok (.istore 4, 2) := by decide +kernel
theorem dX12_order_137 : decode cX12_order 137 = .ok (.iload 4, 2) := by decide +kernel
theorem dX12_order_139 : decode cX12_order 139 = .ok (.ifCond .lt 56, 3) := by decide +kernel
theorem dX12_order_142 : decode cX12_order 142 = .ok (.iload_n 2, 1) := by decide +kernel
theorem dX12_order_143 : decode cX12_order 143 = .ok (.ifCond .lt 9, 3) := by decide +kernel
theorem dX12_order_146 : decode cX12_order 146 = .ok (.iload 4, 2) := by decide +kernel
theorem dX12_order_148 : decode cX12_order 148 = .ok (.iload_n 2, 1) := by decide +kernel
theorem dX12_order_149 : decode cX12_order 149 = .ok (.if_icmp .ge 46, 3) := by decide +kernel
theorem dX12_order_152 : decode cX12_order 152 = .ok (.iload 4, 2) := by decide +kernel
theorem dX12_order_154 : decode cX12_order 154 = .ok (.istore_n 2, 1) := by decide +kernel
theorem dX12_order_155 : decode cX12_order 155 = .ok (.aload_n 0, 1) := by decide +kernel
theorem dX12_order_156 : decode cX12_order 156 = .ok (.aload_n 0, 1) := by decide +kernel
theorem dX12_order_157 : decode cX12_order 157 = .ok (.getfield 310, 3) := by decide +kernel
theorem dX12_order_160 : decode cX12_order 160 = .ok (.putfield 325, 3) := by decide +kernel
theorem dX12_order_163 : decode cX12_order 163 = .ok (.iconst 0, 1) := by decide +kernel
theorem dX12_order_164 : decode cX12_order 164 = .ok (.istore 5, 2) := by decide +kernel
theorem dX12_order_166 : decode cX12_order 166 = .ok (.iload 5, 2) := by decide +kernel
theorem dX12_order_168 : decode cX12_order 168 = .ok (.aload_n 0, 1) := by decide +kernel
theorem dX12_order_169 : decode cX12_order 169 = .ok (.getfield 310, 3) := by decide +kernel
theorem dX12_order_172 : decode cX12_order 172 = .ok (.if_icmp .ge 23, 3) := by decide +kernel
theorem dX12_order_175 : decode cX12_order 175 = .ok (.aload_n 0, 1) := by decide +kernel
theorem dX12_order_176 : decode cX12_order 176 = .ok (.getfield 89, 3) := by decide +kernel
theorem dX12_order_179 : decode cX12_order 179 = .ok (.iload 5, 2) := by decide +kernel
theorem dX12_order_181 : decode cX12_order 181 = .ok (.aload_n 0, 1) := by decide +kernel
theorem dX12_order_182 : decode cX12_order 182 = .ok (.getfield 130, 3) := by decide +kernel
theorem dX12_order_185 : decode cX12_order 185 = .ok (.iload 5, 2) := by decide +kernel
theorem dX12_order_187 : decode cX12_order 187 = .ok (.iaload, 1) := by decide +kernel
theorem dX12_order_188 : decode cX12_order 188 = .ok (.iastore, 1) := by decide +kernel
theorem dX12_order_189 : decode cX12_order 189 = .ok (.iinc 5 1, 3) := by decide +kernel
theorem dX12_order_192 : decode cX12_order 192 = .ok (.goto (-26), 3) := by decide +kernel
theorem dX12_order_195 : decode cX12_order 195 = .ok (.aload_n 0, 1) := by decide +kernel
theorem dX12_order_196 : decode cX12_order 196 = .ok (.aload_n 0, 1) := by decide +kernel
theorem dX12_order_197 : decode cX12_order 197 = .ok (.getfield 310, 3) := by decide +kernel
theorem dX12_order_200 : decode cX12_order 200 = .ok (.invokevirtual 328, 3) := by decide +kernel
theorem dX12_order_203 : decode cX12_order 203 = .ok (.istore_n 3, 1) := by decide +kernel
theorem dX12_order_204 : decode cX12_order 204 = .ok (.goto (-78), 3) := by decide +kernel
theorem dX12_order_207 : decode cX12_order 207 = .ok (.iload_n 2, 1) := by decide +kernel
theorem dX12_order_208 : decode cX12_order 208 = .ok (.ifCond .ge 6, 3) := by decide +kernel
theorem dX12_order_211 : decode cX12_order 211 = .ok (.bipush (-2), 2) := by decide +kernel
theorem dX12_order_213 : decode cX12_order 213 = .ok (.ireturn, 1) := by decide +kernel
theorem dX12_order_214 : decode cX12_order 214 = .ok (.aload_n 0, 1) := by decide +kernel
theorem dX12_order_215 : decode cX12_order 215 = .ok (.iconst 0, 1) := by decide +kernel
theorem dX12_order_216 : decode cX12_order 216 = .ok (.putfield 310, 3) := by decide +kernel
theorem dX12_order_219 : decode cX12_order 219 = .ok (.iload_n 2, 1) := by decide +kernel
theorem dX12_order_220 : decode cX12_order 220 = .ok (.ireturn, 1) := by decide +kernel
theorem dX12_ordered_14 : decode cX12_ordered 14 = .ok (.aload_n 0, 1) := by decide +kernel
theorem dX12_ordered_15 : decode cX12_ordered 15 = .ok (.getfield 89, 3) := by decide +kernel
theorem dX12_ordered_18 : decode cX12_ordered 18 = .ok (.iload_n 1, 1) := by decide +kernel
theorem dX12_ordered_19 : decode cX12_ordered 19 = .ok (.iaload, 1) := by decide +kernel
theorem dX12_ordered_20 : decode cX12_ordered 20 = .ok (.goto 4, 3) := by decide +kernel
theorem dX12_turning_9 : decode cX12_turning 9 = .ok (.bipush (-3), 2) := by decide +kernel
theorem dX12_turning_11 : decode cX12_turning 11 = .ok (.ireturn, 1) := by decide +kernel
theorem dX12_harm_8 : decode cX12_harm 8 = .ok (.aload_n 0, 1) := by decide +kernel
theorem dX12_harm_9 : decode cX12_harm 9 = .ok (.getfield 331, 3) := by decide +kernel
theorem dX12_harm_12 : decode cX12_harm 12 = .ok (.ifCond .ne 5, 3) := by decide +kernel
theorem dX12_harm_17 : decode cX12_harm 17 = .ok (.iconst (-1), 1) := by decide +kernel
theorem dX12_harm_18 : decode cX12_harm 18 = .ok (.istore_n 2, 1) := by decide +kernel
theorem dX12_harm_19 : decode cX12_harm 19 = .ok (.iconst 0, 1) := by decide +kernel
theorem dX12_harm_20 : decode cX12_harm 20 = .ok (.istore_n 3, 1) := by decide +kernel
theorem dX12_harm_21 : decode cX12_harm 21 = .ok (.iload_n 3, 1) := by decide +kernel
theorem dX12_harm_22 : decode cX12_harm 22 = .ok (.aload_n 0, 1) := by decide +kernel
theorem dX12_harm_23 : decode cX12_harm 23 = .ok (.getfield 331, 3) := by decide +kernel
theorem dX12_harm_26 : decode cX12_harm 26 = .ok (.if_icmp .ge 109, 3) := by decide +kernel
theorem dX12_harm_29 : decode cX12_harm 29 = .ok (.aload_n 0, 1) := by decide +kernel
theorem dX12_harm_30 : decode cX12_harm 30 = .ok (.iload_n 1, 1) := by decide +kernel
theorem dX12_harm_31 : decode cX12_harm 31 = .ok (.aload_n 0, 1) := by decide +kernel
theorem dX12_harm_32 : decode cX12_harm 32 = .ok (.getfield 32, 3) := by decide +kernel
theorem dX12_harm_35 : decode cX12_harm 35 = .ok (.iload_n 1, 1) := by decide +kernel
theorem dX12_harm_36 : decode cX12_harm 36 = .ok (.iaload, 1) := by decide +kernel
theorem dX12_harm_37 : decode cX12_harm 37 = .ok (.aload_n 0, 1) := by decide +kernel
theorem dX12_harm_38 : decode cX12_harm 38 = .ok (.getfield 92, 3) := by decide +kernel
theorem dX12_harm_41 : decode cX12_harm 41 = .ok (.iload_n 3, 1) := by decide +kernel
theorem dX12_harm_42 : decode cX12_harm 42 = .ok (.iaload, 1) := by decide +kernel
theorem dX12_harm_43 : decode cX12_harm 43 = .ok (.invokevirtual 319, 3) := by decide +kernel
theorem dX12_harm_46 : decode cX12_harm 46 = .ok (.iconst 0, 1) := by decide +kernel
theorem dX12_harm_47 : decode cX12_harm 47 = .ok (.istore 4, 2) := by decide +kernel
theorem dX12_harm_49 : decode cX12_harm 49 = .ok (.iconst 0, 1) := by decide +kernel
theorem dX12_harm_50 : decode cX12_harm 50 = .ok (.istore 5, 2) := by decide +kernel
theorem dX12_harm_52 : decode cX12_harm 52 = .ok (.iload 5, 2) := by decide +kernel
theorem dX12_harm_54 : decode cX12_harm 54 = .ok (.aload_n 0, 1) := by decide +kernel
theorem dX12_harm_55 : decode cX12_harm 55 = .ok (.getfield 140, 3) := by decide +kernel
theorem dX12_harm_58 : decode cX12_harm 58 = .ok (.if_icmp .ge 50, 3) := by decide +kernel
theorem dX12_harm_61 : decode cX12_harm 61 = .ok (.aload_n 0, 1) := by decide +kernel
theorem dX12_harm_62 : decode cX12_harm 62 = .ok (.bipush 10, 2) := by decide +kernel
theorem dX12_harm_64 : decode cX12_harm 64 = .ok (.iload 5, 2) := by decide +kernel
theorem dX12_harm_66 : decode cX12_harm 66 = .ok (.invokevirtual 223, 3) := by decide +kernel
theorem dX12_harm_69 : decode cX12_harm 69 = .ok (.ifCond .eq 14, 3) := by decide +kernel
theorem dX12_harm_72 : decode cX12_harm 72 = .ok (.aload_n 0, 1) := by decide +kernel
theorem dX12_harm_73 : decode cX12_harm 73 = .ok (.bipush 10, 2) := by decide +kernel
theorem dX12_harm_75 : decode cX12_harm 75 = .ok (.iload 5, 2) := by decide +kernel
theorem dX12_harm_77 : decode cX12_harm 77 = .ok (.invokevirtual 272, 3) := by decide +kernel
theorem dX12_harm_80 : decode cX12_harm 80 = .ok (.goto 4, 3) := by decide +kernel
theorem dX12_harm_83 : decode cX12_harm 83 = .ok (.iconst 0, 1) := by decide +kernel
theorem dX12_harm_84 : decode cX12_harm 84 = .ok (.istore 6, 2) := by decide +kernel
theorem dX12_harm_86 : decode cX12_harm 86 = .ok (.iload 6, 2) := by decide +kernel
theorem dX12_harm_88 : decode cX12_harm 88 = .ok (.iload 4, 2) := by decide +kernel
theorem dX12_harm_90 : decode cX12_harm 90 = .ok (.if_icmp .le 8, 3) := by decide +kernel
theorem dX12_harm_93 : decode cX12_harm 93 = .ok (.iload 6, 2) := by decide +kernel
theorem dX12_harm_95 : decode cX12_harm 95 = .ok (.goto 5, 3) := by decide +kernel
theorem dX12_harm_98 : decode cX12_harm 98 = .ok (.iload 4, 2) := by decide +kernel
theorem dX12_harm_100 : decode cX12_harm 100 = .ok (.istore 4, 2) := by decide +kernel
theorem dX12_harm_102 : decode cX12_harm 102 = .ok (.iinc 5 1, 3) := by decide +kernel
theorem dX12_harm_105 : decode cX12_harm 105 = .ok (.goto (-53), 3) := by decide +kernel
theorem dX12_harm_108 : decode cX12_harm 108 = .ok (.iload_n 2, 1) := by decide +kernel
theorem dX12_harm_109 : decode cX12_harm 109 = .ok (.ifCond .lt 12, 3) := by decide +kernel
theorem dX12_harm_112 : decode cX12_harm 112 = .ok (.iload 4, 2) := by decide +kernel
theorem dX12_harm_114 : decode cX12_harm 114 = .ok (.aload_n 0, 1) := by decide +kernel
theorem dX12_harm_115 : decode cX12_harm 115 = .ok (.getfield 95, 3) := by decide +kernel
theorem dX12_harm_118 : decode cX12_harm 118 = .ok (.if_icmp .ge 11, 3) := by decide +kernel
theorem dX12_harm_121 : decode cX12_harm 121 = .ok (.iload_n 3, 1) := by decide +kernel
theorem dX12_harm_122 : decode cX12_harm 122 = .ok (.istore_n 2, 1) := by decide +kernel
theorem dX12_harm_123 : decode cX12_harm 123 = .ok (.aload_n 0, 1) := by decide +kernel
theorem dX12_harm_124 : decode cX12_harm 124 = .ok (.iload 4, 2) := by decide +kernel
theorem dX12_harm_126 : decode cX12_harm 126 = .ok (.putfield 95, 3) := by decide +kernel
theorem dX12_harm_129 : decode cX12_harm 129 = .ok (.iinc 3 1, 3) := by decide +kernel
theorem dX12_harm_132 : decode cX12_harm 132 = .ok (.goto (-111), 3) := by decide +kernel
theorem dX12_harm_135 : decode cX12_harm 135 = .ok (.aload_n 0, 1) := by decide +kernel
theorem dX12_harm_136 : decode cX12_harm 136 = .ok (.iconst 0, 1) := by decide +kernel
theorem dX12_harm_137 : decode cX12_harm 137 = .ok (.putfield 331, 3) := by decide +kernel
theorem dX12_harm_140 : decode cX12_harm 140 = .ok (.iload_n 2, 1) := by decide +kernel
theorem dX12_harm_141 : decode cX12_harm 141 = .ok (.ireturn, 1) := by decide +kernel
theorem dX12_begins_0 : decode cX12_begins 0 = .ok (.aload_n 0, 1) := by decide +kernel
theorem dX12_begins_1 : decode cX12_begins 1 = .ok (.getfield 334, 3) := by decide +kernel
theorem dX12_begins_4 : decode cX12_begins 4 = .ok (.bipush 24, 2) := by decide +kernel
theorem dX12_begins_6 : decode cX12_begins 6 = .ok (.if_icmp .ge 13, 3) := by decide +kernel
theorem dX12_begins_9 : decode cX12_begins 9 = .ok (.aload_n 0, 1) := by decide +kernel
theorem dX12_begins_10 : decode cX12_begins 10 = .ok (.getfield 99, 3) := by decide +kernel
theorem dX12_begins_13 : decode cX12_begins 13 = .ok (.aload_n 0, 1) := by decide +kernel
theorem dX12_begins_14 : decode cX12_begins 14 = .ok (.getfield 334, 3) := by decide +kernel
theorem dX12_begins_17 : decode cX12_begins 17 = .ok (.iload_n 1, 1) := by decide +kernel
theorem dX12_begins_18 : decode cX12_begins 18 = .ok (.iastore, 1) := by decide +kernel
theorem dX12_begins_19 : decode cX12_begins 19 = .ok (.aload_n 0, 1) := by decide +kernel
theorem dX12_begins_20 : decode cX12_begins 20 = .ok (.dup, 1) := by decide +kernel
theorem dX12_begins_21 : decode cX12_begins 21 = .ok (.getfield 334, 3) := by decide +kernel
theorem dX12_begins_24 : decode cX12_begins 24 = .ok (.iconst 1, 1) := by decide +kernel
theorem dX12_begins_25 : decode cX12_begins 25 = .ok (.iadd, 1) := by decide +kernel
theorem dX12_begins_26 : decode cX12_begins 26 = .ok (.putfield 334, 3) := by decide +kernel
theorem dX12_begins_29 : decode cX12_begins 29 = .ok (.return_, 1) := by decide +kernel
theorem dX12_aboveOf_0 : decode cX12_aboveOf 0 = .ok (.iload_n 0, 1) := by decide +kernel
theorem dX12_aboveOf_1 : decode cX12_aboveOf 1 = .ok (.bipush 6, 2) := by decide +kernel
theorem dX12_aboveOf_3 : decode cX12_aboveOf 3 = .ok (.if_icmp .ne 7, 3) := by decide +kernel
theorem dX12_aboveOf_6 : decode cX12_aboveOf 6 = .ok (.iconst 1, 1) := by decide +kernel
theorem dX12_aboveOf_7 : decode cX12_aboveOf 7 = .ok (.goto 4, 3) := by decide +kernel
theorem dX12_aboveOf_10 : decode cX12_aboveOf 10 = .ok (.iconst 0, 1) := by decide +kernel
theorem dX12_aboveOf_11 : decode cX12_aboveOf 11 = .ok (.ireturn, 1) := by decide +kernel
theorem dX12_findsFrom_0 : decode cX12_findsFrom 0 = .ok (.iload_n 2, 1) := by decide +kernel
theorem dX12_findsFrom_1 : decode cX12_findsFrom 1 = .ok (.tableswitch 105 0 6 #[43, 52, 105, 105, 105, 73, 89], 43) := by decide +kernel
theorem dX12_findsFrom_44 : decode cX12_findsFrom 44 = .ok (.aload_n 0, 1) := by decide +kernel
theorem dX12_findsFrom_45 : decode cX12_findsFrom 45 = .ok (.iconst 1, 1) := by decide +kernel
theorem dX12_findsFrom_46 : decode cX12_findsFrom 46 = .ok (.invokevirtual 337, 3) := by decide +kernel
theorem dX12_findsFrom_49 : decode cX12_findsFrom 49 = .ok (.iload_n 3, 1) := by decide +kernel
theorem dX12_findsFrom_50 : decode cX12_findsFrom 50 = .ok (.iload_n 1, 1) := by decide +kernel
theorem dX12_findsFrom_51 : decode cX12_findsFrom 51 = .ok (.iadd, 1) := by decide +kernel
theorem dX12_findsFrom_52 : decode cX12_findsFrom 52 = .ok (.ireturn, 1) := by decide +kernel
theorem dX12_findsFrom_53 : decode cX12_findsFrom 53 = .ok (.aload_n 0, 1) := by decide +kernel
theorem dX12_findsFrom_54 : decode cX12_findsFrom 54 = .ok (.bipush 20, 2) := by decide +kernel
theorem dX12_findsFrom_56 : decode cX12_findsFrom 56 = .ok (.invokevirtual 337, 3) := by decide +kernel
theorem dX12_findsFrom_59 : decode cX12_findsFrom 59 = .ok (.aload_n 0, 1) := by decide +kernel
theorem dX12_findsFrom_60 : decode cX12_findsFrom 60 = .ok (.iload_n 1, 1) := by decide +kernel
theorem dX12_findsFrom_61 : decode cX12_findsFrom 61 = .ok (.iconst 0, 1) := by decide +kernel
theorem dX12_findsFrom_62 : decode cX12_findsFrom 62 = .ok (.iload_n 3, 1) := by decide +kernel
theorem dX12_findsFrom_63 : decode cX12_findsFrom 63 = .ok (.invokevirtual 340, 3) := by decide +kernel
theorem dX12_findsFrom_66 : decode cX12_findsFrom 66 = .ok (.aload_n 0, 1) := by decide +kernel
theorem dX12_findsFrom_67 : decode cX12_findsFrom 67 = .ok (.getfield 19, 3) := by decide +kernel
theorem dX12_findsFrom_70 : decode cX12_findsFrom 70 = .ok (.iload_n 1, 1) := by decide +kernel
theorem dX12_findsFrom_71 : decode cX12_findsFrom 71 = .ok (.iaload, 1) := by decide +kernel
theorem dX12_findsFrom_72 : decode cX12_findsFrom 72 = .ok (.iadd, 1) := by decide +kernel
theorem dX12_findsFrom_73 : decode cX12_findsFrom 73 = .ok (.ireturn, 1) := by decide +kernel
theorem dX12_findsFrom_74 : decode cX12_findsFrom 74 = .ok (.aload_n 0, 1) := by decide +kernel
theorem dX12_findsFrom_75 : decode cX12_findsFrom 75 = .ok (.bipush 60, 2) := by decide +kernel
theorem dX12_findsFrom_77 : decode cX12_findsFrom 77 = .ok (.invokevirtual 337, 3) := by decide +kernel
theorem dX12_findsFrom_80 : decode cX12_findsFrom 80 = .ok (.aload_n 0, 1) := by decide +kernel
theorem dX12_findsFrom_81 : decode cX12_findsFrom 81 = .ok (.iload_n 1, 1) := by decide +kernel
theorem dX12_findsFrom_82 : decode cX12_findsFrom 82 = .ok (.iconst 0, 1) := by decide +kernel
theorem dX12_findsFrom_83 : decode cX12_findsFrom 83 = .ok (.iload_n 3, 1) := by decide +kernel
theorem dX12_findsFrom_84 : decode cX12_findsFrom 84 = .ok (.iconst 1, 1) := by decide +kernel
theorem dX12_findsFrom_85 : decode cX12_findsFrom 85 = .ok (.iadd, 1) := by decide +kernel
theorem dX12_findsFrom_86 : decode cX12_findsFrom 86 = .ok (.invokevirtual 340, 3) := by decide +kernel
theorem dX12_findsFrom_89 : decode cX12_findsFrom 89 = .ok (.ireturn, 1) := by decide +kernel
theorem dX12_findsFrom_90 : decode cX12_findsFrom 90 = .ok (.aload_n 0, 1) := by decide +kernel
theorem dX12_findsFrom_91 : decode cX12_findsFrom 91 = .ok (.bipush 71, 2) := by decide +kernel
theorem dX12_findsFrom_93 : decode cX12_findsFrom 93 = .ok (.invokevirtual 337, 3) := by decide +kernel
theorem dX12_findsFrom_96 : decode cX12_findsFrom 96 = .ok (.aload_n 0, 1) := by decide +kernel
theorem dX12_findsFrom_97 : decode cX12_findsFrom 97 = .ok (.iload_n 1, 1) := by decide +kernel
theorem dX12_findsFrom_98 : decode cX12_findsFrom 98 = .ok (.iconst 1, 1) := by decide +kernel
theorem dX12_findsFrom_99 : decode cX12_findsFrom 99 = .ok (.iload_n 3, 1) := by decide +kernel
theorem dX12_findsFrom_100 : decode cX12_findsFrom 100 = .ok (.invokevirtual 340, 3) := by decide +kernel
theorem dX12_findsFrom_103 : decode cX12_findsFrom 103 = .ok (.iconst 2, 1) := by decide +kernel
theorem dX12_findsFrom_104 : decode cX12_findsFrom 104 = .ok (.imul, 1) := by decide +kernel
theorem dX12_findsFrom_105 : decode cX12_findsFrom 105 = .ok (.ireturn, 1) := by decide +kernel
theorem dX12_findsFrom_106 : decode cX12_findsFrom 106 = .ok (.aload_n 0, 1) := by decide +kernel
theorem dX12_findsFrom_107 : decode cX12_findsFrom 107 = .ok (.iload_n 1, 1) := by decide +kernel
theorem dX12_findsFrom_108 : decode cX12_findsFrom 108 = .ok (.iload_n 2, 1) := by decide +kernel
theorem dX12_findsFrom_109 : decode cX12_findsFrom 109 = .ok (.invokestatic 343, 3) := by decide +kernel
theorem dX12_findsFrom_112 : decode cX12_findsFrom 112 = .ok (.iload_n 3, 1) := by decide +kernel
theorem dX12_findsFrom_113 : decode cX12_findsFrom 113 = .ok (.invokevirtual 340, 3) := by decide +kernel
theorem dX12_findsFrom_116 : decode cX12_findsFrom 116 = .ok (.ireturn, 1) := by decide +kernel
theorem dX12_keepsFrom_0 : decode cX12_keepsFrom 0 = .ok (.iload_n 2, 1) := by decide +kernel
theorem dX12_keepsFrom_1 : decode cX12_keepsFrom 1 = .ok (.lookupswitch 97 #[(0, 35), (3, 56), (6, 71)], 35) := by decide +kernel
theorem dX12_keepsFrom_36 : decode cX12_keepsFrom 36 = .ok (.aload_n 0, 1) := by decide +kernel
theorem dX12_keepsFrom_37 : decode cX12_keepsFrom 37 = .ok (.bipush 10, 2) := by decide +kernel
theorem dX12_keepsFrom_39 : decode cX12_keepsFrom 39 = .ok (.invokevirtual 337, 3) := by decide +kernel
theorem dX12_keepsFrom_42 : decode cX12_keepsFrom 42 = .ok (.aload_n 0, 1) := by decide +kernel
theorem dX12_keepsFrom_43 : decode cX12_keepsFrom 43 = .ok (.iload_n 1, 1) := by decide +kernel
theorem dX12_keepsFrom_44 : decode cX12_keepsFrom 44 = .ok (.aload_n 0, 1) := by decide +kernel
theorem dX12_keepsFrom_45 : decode cX12_keepsFrom 45 = .ok (.getfield 22, 3) := by decide +kernel
theorem dX12_keepsFrom_48 : decode cX12_keepsFrom 48 = .ok (.iload_n 1, 1) := by decide +kernel
theorem dX12_keepsFrom_49 : decode cX12_keepsFrom 49 = .ok (.iaload, 1) := by decide +kernel
theorem dX12_keepsFrom_50 : decode cX12_keepsFrom 50 = .ok (.iload_n 3, 1) := by decide +kernel
theorem dX12_keepsFrom_51 : decode cX12_keepsFrom 51 = .ok (.invokevirtual 340, 3) := by decide +kernel
theorem dX12_keepsFrom_54 : decode cX12_keepsFrom 54 = .ok (.iconst 2, 1) := by decide +kernel
theorem dX12_keepsFrom_55 : decode cX12_keepsFrom 55 = .ok (.imul, 1) := by decide +kernel
theorem dX12_keepsFrom_56 : decode cX12_keepsFrom 56 = .ok (.ireturn, 1) := by decide +kernel
theorem dX12_keepsFrom_57 : decode cX12_keepsFrom 57 = .ok (.aload_n 0, 1) := by decide +kernel
theorem dX12_keepsFrom_58 : decode cX12_keepsFrom 58 = .ok (.bipush 40, 2) := by decide +kernel
theorem dX12_keepsFrom_60 : decode cX12_keepsFrom 60 = .ok (.invokevirtual 337, 3) := by decide +kernel
theorem dX12_keepsFrom_63 : decode cX12_keepsFrom 63 = .ok (.aload_n 0, 1) := by decide +kernel
theorem dX12_keepsFrom_64 : decode cX12_keepsFrom 64 = .ok (.iload_n 1, 1) := by decide +kernel
theorem dX12_keepsFrom_65 : decode cX12_keepsFrom 65 = .ok (.iconst 0, 1) := by decide +kernel
theorem dX12_keepsFrom_66 : decode cX12_keepsFrom 66 = .ok (.iload_n 3, 1) := by decide +kernel
theorem dX12_keepsFrom_67 : decode cX12_keepsFrom 67 = .ok (.invokevirtual 346, 3) := by decide +kernel
theorem dX12_keepsFrom_70 : decode cX12_keepsFrom 70 = .ok (.ineg, 1) := by decide +kernel
theorem dX12_keepsFrom_71 : decode cX12_keepsFrom 71 = .ok (.ireturn, 1) := by decide +kernel
theorem dX12_keepsFrom_72 : decode cX12_keepsFrom 72 = .ok (.aload_n 0, 1) := by decide +kernel
theorem dX12_keepsFrom_73 : decode cX12_keepsFrom 73 = .ok (.bipush 70, 2) := by decide +kernel
theorem dX12_keepsFrom_75 : decode cX12_keepsFrom 75 = .ok (.invokevirtual 337, 3) := by decide +kernel
theorem dX12_keepsFrom_78 : decode cX12_keepsFrom 78 = .ok (.aload_n 0, 1) := by decide +kernel
theorem dX12_keepsFrom_79 : decode cX12_keepsFrom 79 = .ok (.iload_n 1, 1) := by decide +kernel
theorem dX12_keepsFrom_80 : decode cX12_keepsFrom 80 = .ok (.iconst 1, 1) := by decide +kernel
theorem dX12_keepsFrom_81 : decode cX12_keepsFrom 81 = .ok (.iload_n 3, 1) := by decide +kernel
theorem dX12_keepsFrom_82 : decode cX12_keepsFrom 82 = .ok (.invokevirtual 346, 3) := by decide +kernel
theorem dX12_keepsFrom_85 : decode cX12_keepsFrom 85 = .ok (.istore 4, 2) := by decide +kernel
theorem dX12_keepsFrom_87 : decode cX12_keepsFrom 87 = .ok (.iload 4, 2) := by decide +kernel
theorem dX12_keepsFrom_89 : decode cX12_keepsFrom 89 = .ok (.aload_n 0, 1) := by decide +kernel
theorem dX12_keepsFrom_90 : decode cX12_keepsFrom 90 = .ok (.iload_n 1, 1) := by decide +kernel
theorem dX12_keepsFrom_91 : decode cX12_keepsFrom 91 = .ok (.iconst 1, 1) := by decide +kernel
theorem dX12_keepsFrom_92 : decode cX12_keepsFrom 92 = .ok (.iload_n 3, 1) := by decide +kernel
theorem dX12_keepsFrom_93 : decode cX12_keepsFrom 93 = .ok (.invokevirtual 349, 3) := by decide +kernel
theorem dX12_keepsFrom_96 : decode cX12_keepsFrom 96 = .ok (.iadd, 1) := by decide +kernel
theorem dX12_keepsFrom_97 : decode cX12_keepsFrom 97 = .ok (.ireturn, 1) := by decide +kernel
theorem dX12_keepsFrom_98 : decode cX12_keepsFrom 98 = .ok (.aload_n 0, 1) := by decide +kernel
theorem dX12_keepsFrom_99 : decode cX12_keepsFrom 99 = .ok (.iload_n 1, 1) := by decide +kernel
theorem dX12_keepsFrom_100 : decode cX12_keepsFrom 100 = .ok (.iload_n 2, 1) := by decide +kernel
theorem dX12_keepsFrom_101 : decode cX12_keepsFrom 101 = .ok (.invokestatic 343, 3) := by decide +kernel
theorem dX12_keepsFrom_104 : decode cX12_keepsFrom 104 = .ok (.iload_n 3, 1) := by decide +kernel
theorem dX12_keepsFrom_105 : decode cX12_keepsFrom 105 = .ok (.invokevirtual 346, 3) := by decide +kernel
theorem dX12_keepsFrom_108 : decode cX12_keepsFrom 108 = .ok (.ireturn, 1) := by decide +kernel
theorem dX12_movesFrom_0 : decode cX12_movesFrom 0 = .ok (.iload_n 2, 1) := by decide +kernel
theorem dX12_movesFrom_1 : decode cX12_movesFrom 1 = .ok (.lookupswitch 92 #[(0, 35), (2, 45), (5, 61)], 35) := by decide +kernel
theorem dX12_movesFrom_36 : decode cX12_movesFrom 36 = .ok (.aload_n 0, 1) := by decide +kernel
theorem dX12_movesFrom_37 : decode cX12_movesFrom 37 = .ok (.bipush 11, 2) := by decide +kernel
theorem dX12_movesFrom_39 : decode cX12_movesFrom 39 = .ok (.invokevirtual 337, 3) := by decide +kernel
theorem dX12_movesFrom_42 : decode cX12_movesFrom 42 = .ok (.iload_n 3, 1) := by decide +kernel
theorem dX12_movesFrom_43 : decode cX12_movesFrom 43 = .ok (.iload_n 1, 1) := by decide +kernel
theorem dX12_movesFrom_44 : decode cX12_movesFrom 44 = .ok (.ixor, 1) := by decide +kernel
theorem dX12_movesFrom_45 : decode cX12_movesFrom 45 = .ok (.ireturn, 1) := by decide +kernel
theorem dX12_movesFrom_46 : decode cX12_movesFrom 46 = .ok (.aload_n 0, 1) := by decide +kernel
theorem dX12_movesFrom_47 : decode cX12_movesFrom 47 = .ok (.bipush 30, 2) := by decide +kernel
theorem dX12_movesFrom_49 : decode cX12_movesFrom 49 = .ok (.invokevirtual 337, 3) := by decide +kernel
theorem dX12_movesFrom_52 : decode cX12_movesFrom 52 = .ok (.aload_n 0, 1) := by decide +kernel
theorem dX12_movesFrom_53 : decode cX12_movesFrom 53 = .ok (.iload_n 1, 1) := by decide +kernel
theorem dX12_movesFrom_54 : decode cX12_movesFrom 54 = .ok (.iconst 0, 1) := by decide +kernel
theorem dX12_movesFrom_55 : decode cX12_movesFrom 55 = .ok (.iload_n 3, 1) := by decide +kernel
theorem dX12_movesFrom_56 : decode cX12_movesFrom 56 = .ok (.invokevirtual 349, 3) := by decide +kernel
theorem dX12_movesFrom_59 : decode cX12_movesFrom 59 = .ok (.iconst 3, 1) := by decide +kernel
theorem dX12_movesFrom_60 : decode cX12_movesFrom 60 = .ok (.imul, 1) := by decide +kernel
theorem dX12_movesFrom_61 : decode cX12_movesFrom 61 = .ok (.ireturn, 1) := by decide +kernel
theorem dX12_movesFrom_62 : decode cX12_movesFrom 62 = .ok (.aload_n 0, 1) := by decide +kernel
theorem dX12_movesFrom_63 : decode cX12_movesFrom 63 = .ok (.bipush 61, 2) := by decide +kernel
theorem dX12_movesFrom_65 : decode cX12_movesFrom 65 = .ok (.invokevirtual 337, 3) := by decide +kernel
theorem dX12_movesFrom_68 : decode cX12_movesFrom 68 = .ok (.aload_n 0, 1) := by decide +kernel
theorem dX12_movesFrom_69 : decode cX12_movesFrom 69 = .ok (.iload_n 1, 1) := by decide +kernel
theorem dX12_movesFrom_70 : decode cX12_movesFrom 70 = .ok (.iconst 0, 1) := by decide +kernel
theorem dX12_movesFrom_71 : decode cX12_movesFrom 71 = .ok (.iload_n 3, 1) := by decide +kernel
theorem dX12_movesFrom_72 : decode cX12_movesFrom 72 = .ok (.invokevirtual 349, 3) := by decide +kernel
theorem dX12_movesFrom_75 : decode cX12_movesFrom 75 = .ok (.istore 4, 2) := by decide +kernel
theorem dX12_movesFrom_77 : decode cX12_movesFrom 77 = .ok (.iload 4, 2) := by decide +kernel
theorem dX12_movesFrom_79 : decode cX12_movesFrom 79 = .ok (.aload_n 0, 1) := by decide +kernel
theorem dX12_movesFrom_80 : decode cX12_movesFrom 80 = .ok (.iload_n 1, 1) := by decide +kernel
theorem dX12_movesFrom_81 : decode cX12_movesFrom 81 = .ok (.aload_n 0, 1) := by decide +kernel
theorem dX12_movesFrom_82 : decode cX12_movesFrom 82 = .ok (.getfield 22, 3) := by decide +kernel
theorem dX12_movesFrom_85 : decode cX12_movesFrom 85 = .ok (.iload_n 1, 1) := by decide +kernel
theorem dX12_movesFrom_86 : decode cX12_movesFrom 86 = .ok (.iaload, 1) := by decide +kernel
theorem dX12_movesFrom_87 : decode cX12_movesFrom 87 = .ok (.iconst 2, 1) := by decide +kernel
theorem dX12_movesFrom_88 : decode cX12_movesFrom 88 = .ok (.invokevirtual 340, 3) := by decide +kernel
theorem dX12_movesFrom_91 : decode cX12_movesFrom 91 = .ok (.isub, 1) := by decide +kernel
theorem dX12_movesFrom_92 : decode cX12_movesFrom 92 = .ok (.ireturn, 1) := by decide +kernel
theorem dX12_movesFrom_93 : decode cX12_movesFrom 93 = .ok (.aload_n 0, 1) := by decide +kernel
theorem dX12_movesFrom_94 : decode cX12_movesFrom 94 = .ok (.iload_n 1, 1) := by decide +kernel
theorem dX12_movesFrom_95 : decode cX12_movesFrom 95 = .ok (.iload_n 2, 1) := by decide +kernel
theorem dX12_movesFrom_96 : decode cX12_movesFrom 96 = .ok (.invokestatic 343, 3) := by decide +kernel
theorem dX12_movesFrom_99 : decode cX12_movesFrom 99 = .ok (.iload_n 3, 1) := by decide +kernel
theorem dX12_movesFrom_100 : decode cX12_movesFrom 100 = .ok (.invokevirtual 349, 3) := by decide +kernel
theorem dX12_movesFrom_103 : decode cX12_movesFrom 103 = .ok (.ireturn, 1) := by decide +kernel
theorem dX12_tellsFrom_0 : decode cX12_tellsFrom 0 = .ok (.iload_n 2, 1) := by decide +kernel
theorem dX12_tellsFrom_1 : decode cX12_tellsFrom 1 = .ok (.lookupswitch 79 #[(0, 27), (4, 62)], 27) := by decide +kernel
theorem dX12_tellsFrom_28 : decode cX12_tellsFrom 28 = .ok (.aload_n 0, 1) := by decide +kernel
theorem dX12_tellsFrom_29 : decode cX12_tellsFrom 29 = .ok (.iconst 2, 1) := by decide +kernel
theorem dX12_tellsFrom_30 : decode cX12_tellsFrom 30 = .ok (.invokevirtual 337, 3) := by decide +kernel
theorem dX12_tellsFrom_33 : decode cX12_tellsFrom 33 = .ok (.aload_n 0, 1) := by decide +kernel
theorem dX12_tellsFrom_34 : decode cX12_tellsFrom 34 = .ok (.iload_n 1, 1) := by decide +kernel
theorem dX12_tellsFrom_35 : decode cX12_tellsFrom 35 = .ok (.aload_n 0, 1) := by decide +kernel
theorem dX12_tellsFrom_36 : decode cX12_tellsFrom 36 = .ok (.getfield 22, 3) := by decide +kernel
theorem dX12_tellsFrom_39 : decode cX12_tellsFrom 39 = .ok (.iload_n 1, 1) := by decide +kernel
theorem dX12_tellsFrom_40 : decode cX12_tellsFrom 40 = .ok (.iaload, 1) := by decide +kernel
theorem dX12_tellsFrom_41 : decode cX12_tellsFrom 41 = .ok (.iload_n 3, 1) := by decide +kernel
theorem dX12_tellsFrom_42 : decode cX12_tellsFrom 42 = .ok (.invokevirtual 346, 3) := by decide +kernel
theorem dX12_tellsFrom_45 : decode cX12_tellsFrom 45 = .ok (.istore 4, 2) := by decide +kernel
theorem dX12_tellsFrom_47 : decode cX12_tellsFrom 47 = .ok (.iload 4, 2) := by decide +kernel
theorem dX12_tellsFrom_49 : decode cX12_tellsFrom 49 = .ok (.aload_n 0, 1) := by decide +kernel
theorem dX12_tellsFrom_50 : decode cX12_tellsFrom 50 = .ok (.iload_n 1, 1) := by decide +kernel
theorem dX12_tellsFrom_51 : decode cX12_tellsFrom 51 = .ok (.aload_n 0, 1) := by decide +kernel
theorem dX12_tellsFrom_52 : decode cX12_tellsFrom 52 = .ok (.getfield 22, 3) := by decide +kernel
theorem dX12_tellsFrom_55 : decode cX12_tellsFrom 55 = .ok (.iload_n 1, 1) := by decide +kernel
theorem dX12_tellsFrom_56 : decode cX12_tellsFrom 56 = .ok (.iaload, 1) := by decide +kernel
theorem dX12_tellsFrom_57 : decode cX12_tellsFrom 57 = .ok (.iconst 1, 1) := by decide +kernel
theorem dX12_tellsFrom_58 : decode cX12_tellsFrom 58 = .ok (.invokevirtual 349, 3) := by decide +kernel
theorem dX12_tellsFrom_61 : decode cX12_tellsFrom 61 = .ok (.isub, 1) := by decide +kernel
theorem dX12_tellsFrom_62 : decode cX12_tellsFrom 62 = .ok (.ireturn, 1) := by decide +kernel
theorem dX12_tellsFrom_63 : decode cX12_tellsFrom 63 = .ok (.aload_n 0, 1) := by decide +kernel
theorem dX12_tellsFrom_64 : decode cX12_tellsFrom 64 = .ok (.bipush 50, 2) := by decide +kernel
theorem dX12_tellsFrom_66 : decode cX12_tellsFrom 66 = .ok (.invokevirtual 337, 3) := by decide +kernel
theorem dX12_tellsFrom_69 : decode cX12_tellsFrom 69 = .ok (.aload_n 0, 1) := by decide +kernel
theorem dX12_tellsFrom_70 : decode cX12_tellsFrom 70 = .ok (.iload_n 1, 1) := by decide +kernel
theorem dX12_tellsFrom_71 : decode cX12_tellsFrom 71 = .ok (.iconst 0, 1) := by decide +kernel
theorem dX12_tellsFrom_72 : decode cX12_tellsFrom 72 = .ok (.iload_n 3, 1) := by decide +kernel
theorem dX12_tellsFrom_73 : decode cX12_tellsFrom 73 = .ok (.invokevirtual 352, 3) := by decide +kernel
theorem dX12_tellsFrom_76 : decode cX12_tellsFrom 76 = .ok (.bipush 9, 2) := by decide +kernel
theorem dX12_tellsFrom_78 : decode cX12_tellsFrom 78 = .ok (.ixor, 1) := by decide +kernel
theorem dX12_tellsFrom_79 : decode cX12_tellsFrom 79 = .ok (.ireturn, 1) := by decide +kernel
theorem dX12_tellsFrom_80 : decode cX12_tellsFrom 80 = .ok (.aload_n 0, 1) := by decide +kernel
theorem dX12_tellsFrom_81 : decode cX12_tellsFrom 81 = .ok (.iload_n 1, 1) := by decide +kernel
theorem dX12_tellsFrom_82 : decode cX12_tellsFrom 82 = .ok (.iload_n 2, 1) := by decide +kernel
theorem dX12_tellsFrom_83 : decode cX12_tellsFrom 83 = .ok (.invokestatic 343, 3) := by decide +kernel
theorem dX12_tellsFrom_86 : decode cX12_tellsFrom 86 = .ok (.iload_n 3, 1) := by decide +kernel
theorem dX12_tellsFrom_87 : decode cX12_tellsFrom 87 = .ok (.invokevirtual 352, 3) := by decide +kernel
theorem dX12_tellsFrom_90 : decode cX12_tellsFrom 90 = .ok (.ireturn, 1) := by decide +kernel
theorem dX12_act_13 : decode cX12_act 13 = .ok (.iload_n 2, 1) := by decide +kernel
theorem dX12_act_14 : decode cX12_act 14 = .ok (.iconst 0, 1) := by decide +kernel
theorem dX12_act_15 : decode cX12_act 15 = .ok (.iconst 3, 1) := by decide +kernel
theorem dX12_act_16 : decode cX12_act 16 = .ok (.invokestatic 136, 3) := by decide +kernel
theorem dX12_act_19 : decode cX12_act 19 = .ok (.ifCond .ne 5, 3) := by decide +kernel
theorem dX12_act_24 : decode cX12_act 24 = .ok (.aload_n 0, 1) := by decide +kernel
theorem dX12_act_25 : decode cX12_act 25 = .ok (.getfield 22, 3) := by decide +kernel
theorem dX12_act_28 : decode cX12_act 28 = .ok (.iload_n 1, 1) := by decide +kernel
theorem dX12_act_29 : decode cX12_act 29 = .ok (.iaload, 1) := by decide +kernel
theorem dX12_act_30 : decode cX12_act 30 = .ok (.istore 4, 2) := by decide +kernel
theorem dX12_act_32 : decode cX12_act 32 = .ok (.iload_n 2, 1) := by decide +kernel
theorem dX12_act_33 : decode cX12_act 33 = .ok (.ifCond .ne 14, 3) := by decide +kernel
theorem dX12_act_36 : decode cX12_act 36 = .ok (.aload_n 0, 1) := by decide +kernel
theorem dX12_act_37 : decode cX12_act 37 = .ok (.iload_n 1, 1) := by decide +kernel
theorem dX12_act_38 : decode cX12_act 38 = .ok (.iload 4, 2) := by decide +kernel
theorem dX12_act_40 : decode cX12_act 40 = .ok (.iload_n 3, 1) := by decide +kernel
theorem dX12_act_41 : decode cX12_act 41 = .ok (.invokevirtual 340, 3) := by decide +kernel
theorem dX12_act_44 : decode cX12_act 44 = .ok (.goto 43, 3) := by decide +kernel
theorem dX12_act_47 : decode cX12_act 47 = .ok (.iload_n 2, 1) := by decide +kernel
theorem dX12_act_48 : decode cX12_act 48 = .ok (.iconst 1, 1) := by decide +kernel
theorem dX12_act_49 : decode cX12_act 49 = .ok (.if_icmp .ne 14, 3) := by decide +kernel
theorem dX12_act_52 : decode cX12_act 52 = .ok (.aload_n 0, 1) := by decide +kernel
theorem dX12_act_53 : decode cX12_act 53 = .ok (.iload_n 1, 1) := by decide +kernel
theorem dX12_act_54 : decode cX12_act 54 = .ok (.iload 4, 2) := by decide +kernel
theorem dX12_act_56 : decode cX12_act 56 = .ok (.iload_n 3, 1) := by decide +kernel
theorem dX12_act_57 : decode cX12_act 57 = .ok (.invokevirtual 346, 3) := by decide +kernel
theorem dX12_act_60 : decode cX12_act 60 = .ok (.goto 27, 3) := by decide +kernel
theorem dX12_act_63 : decode cX12_act 63 = .ok (.iload_n 2, 1) := by decide +kernel
theorem dX12_act_64 : decode cX12_act 64 = .ok (.iconst 2, 1) := by decide +kernel
theorem dX12_act_65 : decode cX12_act 65 = .ok (.if_icmp .ne 14, 3) := by decide +kernel
theorem dX12_act_68 : decode cX12_act 68 = .ok (.aload_n 0, 1) := by decide +kernel
theorem dX12_act_69 : decode cX12_act 69 = .ok (.iload_n 1, 1) := by decide +kernel
theorem dX12_act_70 : decode cX12_act 70 = .ok (.iload 4, 2) := by decide +kernel
theorem dX12_act_72 : decode cX12_act 72 = .ok (.iload_n 3, 1) := by decide +kernel
theorem dX12_act_73 : decode cX12_act 73 = .ok (.invokevirtual 349, 3) := by decide +kernel
theorem dX12_act_76 : decode cX12_act 76 = .ok (.goto 11, 3) := by decide +kernel
theorem dX12_act_79 : decode cX12_act 79 = .ok (.aload_n 0, 1) := by decide +kernel
theorem dX12_act_80 : decode cX12_act 80 = .ok (.iload_n 1, 1) := by decide +kernel
theorem dX12_act_81 : decode cX12_act 81 = .ok (.iload 4, 2) := by decide +kernel
theorem dX12_act_83 : decode cX12_act 83 = .ok (.iload_n 3, 1) := by decide +kernel
theorem dX12_act_84 : decode cX12_act 84 = .ok (.invokevirtual 352, 3) := by decide +kernel
theorem dX12_act_87 : decode cX12_act 87 = .ok (.ireturn, 1) := by decide +kernel
theorem dX12_trace_12 : decode cX12_trace 12 = .ok (.iload_n 1, 1) := by decide +kernel
theorem dX12_trace_13 : decode cX12_trace 13 = .ok (.bipush 24, 2) := by decide +kernel
theorem dX12_trace_15 : decode cX12_trace 15 = .ok (.if_icmp .ge 12, 3) := by decide +kernel
theorem dX12_trace_18 : decode cX12_trace 18 = .ok (.aload_n 0, 1) := by decide +kernel
theorem dX12_trace_19 : decode cX12_trace 19 = .ok (.getfield 99, 3) := by decide +kernel
theorem dX12_trace_22 : decode cX12_trace 22 = .ok (.iload_n 1, 1) := by decide +kernel
theorem dX12_trace_23 : decode cX12_trace 23 = .ok (.iaload, 1) := by decide +kernel
theorem dX12_trace_24 : decode cX12_trace 24 = .ok (.goto 4, 3) := by decide +kernel
theorem dX12_barred_32 : decode cX12_barred 32 = .ok (.bipush (-12), 2) := by decide +kernel
theorem dX12_barred_35 : decode cX12_barred 35 = .ok (.iload_n 2, 1) := by decide +kernel
theorem dX12_barred_36 : decode cX12_barred 36 = .ok (.iconst 0, 1) := by decide +kernel
theorem dX12_barred_37 : decode cX12_barred 37 = .ok (.aload_n 0, 1) := by decide +kernel
theorem dX12_barred_38 : decode cX12_barred 38 = .ok (.getfield 108, 3) := by decide +kernel
theorem dX12_barred_41 : decode cX12_barred 41 = .ok (.iload_n 1, 1) := by decide +kernel
theorem dX12_barred_42 : decode cX12_barred 42 = .ok (.iaload, 1) := by decide +kernel
theorem dX12_barred_43 : decode cX12_barred 43 = .ok (.iconst 1, 1) := by decide +kernel
theorem dX12_barred_44 : decode cX12_barred 44 = .ok (.isub, 1) := by decide +kernel
theorem dX12_barred_45 : decode cX12_barred 45 = .ok (.invokestatic 136, 3) := by decide +kernel
theorem dX12_barred_48 : decode cX12_barred 48 = .ok (.ifCond .eq 7, 3) := by decide +kernel
theorem dX12_barred_51 : decode cX12_barred 51 = .ok (.iconst 0, 1) := by decide +kernel
theorem dX12_barred_52 : decode cX12_barred 52 = .ok (.goto 5, 3) := by decide +kernel
theorem dX12_barred_55 : decode cX12_barred 55 = .ok (.bipush (-13), 2) := by decide +kernel
theorem dX12_barred_57 : decode cX12_barred 57 = .ok (.ireturn, 1) := by decide +kernel
theorem dX12_put_16 : decode cX12_put 16 = .ok (.aload_n 0, 1) := by decide +kernel
theorem dX12_put_17 : decode cX12_put 17 = .ok (.getfield 105, 3) := by decide +kernel
theorem dX12_put_20 : decode cX12_put 20 = .ok (.iload_n 1, 1) := by decide +kernel
theorem dX12_put_21 : decode cX12_put 21 = .ok (.iaload, 1) := by decide +kernel
theorem dX12_put_22 : decode cX12_put 22 = .ok (.istore 6, 2) := by decide +kernel
theorem dX12_put_24 : decode cX12_put 24 = .ok (.aload_n 0, 1) := by decide +kernel
theorem dX12_put_25 : decode cX12_put 25 = .ok (.getfield 111, 3) := by decide +kernel
theorem dX12_put_28 : decode cX12_put 28 = .ok (.bipush 60, 2) := by decide +kernel
theorem dX12_put_30 : decode cX12_put 30 = .ok (.iload_n 1, 1) := by decide +kernel
theorem dX12_put_31 : decode cX12_put 31 = .ok (.imul, 1) := by decide +kernel
theorem dX12_put_32 : decode cX12_put 32 = .ok (.iload_n 2, 1) := by decide +kernel
theorem dX12_put_33 : decode cX12_put 33 = .ok (.iadd, 1) := by decide +kernel
theorem dX12_put_34 : decode cX12_put 34 = .ok (.iload 6, 2) := by decide +kernel
theorem dX12_put_36 : decode cX12_put 36 = .ok (.ifCond .ne 10, 3) := by decide +kernel
theorem dX12_put_39 : decode cX12_put 39 = .ok (.lload_n 3, 1) := by decide +kernel
theorem dX12_put_40 : decode cX12_put 40 = .ok (.l2i, 1) := by decide +kernel
theorem dX12_put_41 : decode cX12_put 41 = .ok (.i2b, 1) := by decide +kernel
theorem dX12_put_42 : decode cX12_put 42 = .ok (.i2l, 1) := by decide +kernel
theorem dX12_put_43 : decode cX12_put 43 = .ok (.goto 49, 3) := by decide +kernel
theorem dX12_put_46 : decode cX12_put 46 = .ok (.iload 6, 2) := by decide +kernel
theorem dX12_put_48 : decode cX12_put 48 = .ok (.iconst 1, 1) := by decide +kernel
theorem dX12_put_49 : decode cX12_put 49 = .ok (.if_icmp .ne 10, 3) := by decide +kernel
theorem dX12_put_52 : decode cX12_put 52 = .ok (.lload_n 3, 1) := by decide +kernel
theorem dX12_put_53 : decode cX12_put 53 = .ok (.l2i, 1) := by decide +kernel
theorem dX12_put_54 : decode cX12_put 54 = .ok (.i2s, 1) := by decide +kernel
theorem dX12_put_55 : decode cX12_put 55 = .ok (.i2l, 1) := by decide +kernel
theorem dX12_put_56 : decode cX12_put 56 = .ok (.goto 36, 3) := by decide +kernel
theorem dX12_put_59 : decode cX12_put 59 = .ok (.iload 6, 2) := by decide +kernel
theorem dX12_put_61 : decode cX12_put 61 = .ok (.iconst 2, 1) := by decide +kernel
theorem dX12_put_62 : decode cX12_put 62 = .ok (.if_icmp .ne 9, 3) := by decide +kernel
theorem dX12_put_65 : decode cX12_put 65 = .ok (.lload_n 3, 1) := by decide +kernel
theorem dX12_put_66 : decode cX12_put 66 = .ok (.l2i, 1) := by decide +kernel
theorem dX12_put_67 : decode cX12_put 67 = .ok (.i2l, 1) := by decide +kernel
theorem dX12_put_68 : decode cX12_put 68 = .ok (.goto 24, 3) := by decide +kernel
theorem dX12_put_71 : decode cX12_put 71 = .ok (.iload 6, 2) := by decide +kernel
theorem dX12_put_73 : decode cX12_put 73 = .ok (.iconst 3, 1) := by decide +kernel
theorem dX12_put_74 : decode cX12_put 74 = .ok (.if_icmp .ne 7, 3) := by decide +kernel
theorem dX12_put_77 : decode cX12_put 77 = .ok (.lload_n 3, 1) := by decide +kernel
theorem dX12_put_78 : decode cX12_put 78 = .ok (.goto 14, 3) := by decide +kernel
theorem dX12_put_81 : decode cX12_put 81 = .ok (.lload_n 3, 1) := by decide +kernel
theorem dX12_put_82 : decode cX12_put 82 = .ok (.lconst 0, 1) := by decide +kernel
theorem dX12_put_83 : decode cX12_put 83 = .ok (.lcmp, 1) := by decide +kernel
theorem dX12_put_84 : decode cX12_put 84 = .ok (.ifCond .eq 7, 3) := by decide +kernel
theorem dX12_put_87 : decode cX12_put 87 = .ok (.lconst 1, 1) := by decide +kernel
theorem dX12_put_88 : decode cX12_put 88 = .ok (.goto 4, 3) := by decide +kernel
theorem dX12_put_91 : decode cX12_put 91 = .ok (.lconst 0, 1) := by decide +kernel
theorem dX12_put_92 : decode cX12_put 92 = .ok (.lastore, 1) := by decide +kernel
theorem dX12_put_93 : decode cX12_put 93 = .ok (.iconst 1, 1) := by decide +kernel
theorem dX12_put_94 : decode cX12_put 94 = .ok (.ireturn, 1) := by decide +kernel
theorem dX12_element_15 : decode cX12_element 15 = .ok (.aload_n 0, 1) := by decide +kernel
theorem dX12_element_16 : decode cX12_element 16 = .ok (.getfield 111, 3) := by decide +kernel
theorem dX12_element_19 : decode cX12_element 19 = .ok (.bipush 60, 2) := by decide +kernel
theorem dX12_element_21 : decode cX12_element 21 = .ok (.iload_n 1, 1) := by decide +kernel
theorem dX12_element_22 : decode cX12_element 22 = .ok (.imul, 1) := by decide +kernel
theorem dX12_element_23 : decode cX12_element 23 = .ok (.iload_n 2, 1) := by decide +kernel
theorem dX12_element_24 : decode cX12_element 24 = .ok (.iadd, 1) := by decide +kernel
theorem dX12_element_25 : decode cX12_element 25 = .ok (.laload, 1) := by decide +kernel
theorem dX12_shift_34 : decode cX12_shift 34 = .ok (.aload_n 0, 1) := by decide +kernel
theorem dX12_shift_35 : decode cX12_shift 35 = .ok (.getfield 105, 3) := by decide +kernel
theorem dX12_shift_38 : decode cX12_shift 38 = .ok (.iload_n 3, 1) := by decide +kernel
theorem dX12_shift_39 : decode cX12_shift 39 = .ok (.iaload, 1) := by decide +kernel
theorem dX12_shift_40 : decode cX12_shift 40 = .ok (.ifCond .ge 15, 3) := by decide +kernel
theorem dX12_shift_43 : decode cX12_shift 43 = .ok (.aload_n 0, 1) := by decide +kernel
theorem dX12_shift_44 : decode cX12_shift 44 = .ok (.getfield 102, 3) := by decide +kernel
theorem dX12_shift_47 : decode cX12_shift 47 = .ok (.iload_n 3, 1) := by decide +kernel
theorem dX12_shift_48 : decode cX12_shift 48 = .ok (.iaload, 1) := by decide +kernel
theorem dX12_shift_49 : decode cX12_shift 49 = .ok (.ifCond .ge 6, 3) := by decide +kernel
theorem dX12_shift_55 : decode cX12_shift 55 = .ok (.aload_n 0, 1) := by decide +kernel
theorem dX12_shift_56 : decode cX12_shift 56 = .ok (.getfield 105, 3) := by decide +kernel
theorem dX12_shift_59 : decode cX12_shift 59 = .ok (.iload_n 1, 1) := by decide +kernel
theorem dX12_shift_60 : decode cX12_shift 60 = .ok (.iaload, 1) := by decide +kernel
theorem dX12_shift_61 : decode cX12_shift 61 = .ok (.ifCond .lt 18, 3) := by decide +kernel
theorem dX12_shift_64 : decode cX12_shift 64 = .ok (.aload_n 0, 1) := by decide +kernel
theorem dX12_shift_65 : decode cX12_shift 65 = .ok (.getfield 105, 3) := by decide +kernel
theorem dX12_shift_68 : decode cX12_shift 68 = .ok (.iload_n 1, 1) := by decide +kernel
theorem dX12_shift_69 : decode cX12_shift 69 = .ok (.iaload, 1) := by decide +kernel
theorem dX12_shift_70 : decode cX12_shift 70 = .ok (.aload_n 0, 1) := by decide +kernel
theorem dX12_shift_71 : decode cX12_shift 71 = .ok (.getfield 105, 3) := by decide +kernel
theorem dX12_shift_74 : decode cX12_shift 74 = .ok (.iload_n 3, 1) := by decide +kernel
theorem dX12_shift_75 : decode cX12_shift 75 = .ok (.iaload, 1) := by decide +kernel
theorem dX12_shift_76 : decode cX12_shift 76 = .ok (.if_icmp .eq 6, 3) := by decide +kernel
theorem dX12_shift_79 : decode cX12_shift 79 = .ok (.bipush (-12), 2) := by decide +kernel
theorem dX12_shift_81 : decode cX12_shift 81 = .ok (.ireturn, 1) := by decide +kernel
theorem dX12_shift_82 : decode cX12_shift 82 = .ok (.iload 5, 2) := by decide +kernel
theorem dX12_shift_84 : decode cX12_shift 84 = .ok (.ifCond .lt 60, 3) := by decide +kernel
theorem dX12_shift_87 : decode cX12_shift 87 = .ok (.iload_n 2, 1) := by decide +kernel
theorem dX12_shift_88 : decode cX12_shift 88 = .ok (.ifCond .lt 56, 3) := by decide +kernel
theorem dX12_shift_91 : decode cX12_shift 91 = .ok (.iload 4, 2) := by decide +kernel
theorem dX12_shift_93 : decode cX12_shift 93 = .ok (.ifCond .lt 51, 3) := by decide +kernel
theorem dX12_shift_96 : decode cX12_shift 96 = .ok (.iload_n 2, 1) := by decide +kernel
theorem dX12_shift_97 : decode cX12_shift 97 = .ok (.aload_n 0, 1) := by decide +kernel
theorem dX12_shift_98 : decode cX12_shift 98 = .ok (.getfield 108, 3) := by decide +kernel
theorem dX12_shift_101 : decode cX12_shift 101 = .ok (.iload_n 1, 1) := by decide +kernel
theorem dX12_shift_102 : decode cX12_shift 102 = .ok (.iaload, 1) := by decide +kernel
theorem dX12_shift_103 : decode cX12_shift 103 = .ok (.if_icmp .gt 41, 3) := by decide +kernel
theorem dX12_shift_106 : decode cX12_shift 106 = .ok (.iload 4, 2) := by decide +kernel
theorem dX12_shift_108 : decode cX12_shift 108 = .ok (.aload_n 0, 1) := by decide +kernel
theorem dX12_shift_109 : decode cX12_shift 109 = .ok (.getfield 108, 3) := by decide +kernel
theorem dX12_shift_112 : decode cX12_shift 112 = .ok (.iload_n 3, 1) := by decide +kernel
theorem dX12_shift_113 : decode cX12_shift 113 = .ok (.iaload, 1) := by decide +kernel
theorem dX12_shift_114 : decode cX12_shift 114 = .ok (.if_icmp .gt 30, 3) := by decide +kernel
theorem dX12_shift_117 : decode cX12_shift 117 = .ok (.iload 5, 2) := by decide +kernel
theorem dX12_shift_119 : decode cX12_shift 119 = .ok (.aload_n 0, 1) := by decide +kernel
theorem dX12_shift_120 : decode cX12_shift 120 = .ok (.getfield 108, 3) := by decide +kernel
theorem dX12_shift_123 : decode cX12_shift 123 = .ok (.iload_n 1, 1) := by decide +kernel
theorem dX12_shift_124 : decode cX12_shift 124 = .ok (.iaload, 1) := by decide +kernel
theorem dX12_shift_125 : decode cX12_shift 125 = .ok (.iload_n 2, 1) := by decide +kernel
theorem dX12_shift_126 : decode cX12_shift 126 = .ok (.isub, 1) := by decide +kernel
theorem dX12_shift_127 : decode cX12_shift 127 = .ok (.if_icmp .gt 17, 3) := by decide +kernel
theorem dX12_shift_130 : decode cX12_shift 130 = .ok (.iload 5, 2) := by decide +kernel
theorem dX12_shift_132 : decode cX12_shift 132 = .ok (.aload_n 0, 1) := by decide +kernel
theorem dX12_shift_133 : decode cX12_shift 133 = .ok (.getfield 108, 3) := by decide +kernel
theorem dX12_shift_136 : decode cX12_shift 136 = .ok (.iload_n 3, 1) := by decide +kernel
theorem dX12_shift_137 : decode cX12_shift 137 = .ok (.iaload, 1) := by decide +kernel
theorem dX12_shift_138 : decode cX12_shift 138 = .ok (.iload 4, 2) := by decide +kernel
theorem dX12_shift_140 : decode cX12_shift 140 = .ok (.isub, 1) := by decide +kernel
theorem dX12_shift_141 : decode cX12_shift 141 = .ok (.if_icmp .le 6, 3) := by decide +kernel
theorem dX12_shift_144 : decode cX12_shift 144 = .ok (.bipush (-13), 2) := by decide +kernel
theorem dX12_shift_146 : decode cX12_shift 146 = .ok (.ireturn, 1) := by decide +kernel
theorem dX12_shift_147 : decode cX12_shift 147 = .ok (.bipush 60, 2) := by decide +kernel
theorem dX12_shift_149 : decode cX12_shift 149 = .ok (.iload_n 1, 1) := by decide +kernel
theorem dX12_shift_150 : decode cX12_shift 150 = .ok (.imul, 1) := by decide +kernel
theorem dX12_shift_151 : decode cX12_shift 151 = .ok (.iload_n 2, 1) := by decide +kernel
theorem dX12_shift_152 : decode cX12_shift 152 = .ok (.iadd, 1) := by decide +kernel
theorem dX12_shift_153 : decode cX12_shift 153 = .ok (.istore 6, 2) := by decide +kernel
theorem dX12_shift_155 : decode cX12_shift 155 = .ok (.bipush 60, 2) := by decide +kernel
theorem dX12_shift_157 : decode cX12_shift 157 = .ok (.iload_n 3, 1) := by decide +kernel
theorem dX12_shift_158 : decode cX12_shift 158 = .ok (.imul, 1) := by decide +kernel
theorem dX12_shift_159 : decode cX12_shift 159 = .ok (.iload 4, 2) := by decide +kernel
theorem dX12_shift_161 : decode cX12_shift 161 = .ok (.iadd, 1) := by decide +kernel
theorem dX12_shift_162 : decode cX12_shift 162 = .ok (.istore 7, 2) := by decide +kernel
theorem dX12_shift_164 : decode cX12_shift 164 = .ok (.iconst 0, 1) := by decide +kernel
theorem dX12_shift_165 : decode cX12_shift 165 = .ok (.istore 8, 2) := by decide +kernel
theorem dX12_shift_167 : decode cX12_shift 167 = .ok (.iload 8, 2) := by decide +kernel
theorem dX12_shift_169 : decode cX12_shift 169 = .ok (.iload 5, 2) := by decide +kernel
theorem dX12_shift_171 : decode cX12_shift 171 = .ok (.if_icmp .ge 50, 3) := by decide +kernel
theorem dX12_shift_174 : decode cX12_shift 174 = .ok (.iload 6, 2) := by decide +kernel
theorem dX12_shift_176 : decode cX12_shift 176 = .ok (.iload 7, 2) := by decide +kernel
theorem dX12_shift_178 : decode cX12_shift 178 = .ok (.if_icmp .ge 13, 3) := by decide +kernel
theorem dX12_shift_181 : decode cX12_shift 181 = .ok (.iload 5, 2) := by decide +kernel
theorem dX12_shift_183 : decode cX12_shift 183 = .ok (.iconst 1, 1) := by decide +kernel
theorem dX12_shift_184 : decode cX12_shift 184 = .ok (.isub, 1) := by decide +kernel
theorem dX12_shift_185 : decode cX12_shift 185 = .ok (.iload 8, 2) := by decide +kernel
theorem dX12_shift_187 : decode cX12_shift 187 = .ok (.isub, 1) := by decide +kernel
theorem dX12_shift_188 : decode cX12_shift 188 = .ok (.goto 5, 3) := by decide +kernel
theorem dX12_shift_191 : decode cX12_shift 191 = .ok (.iload 8, 2) := by decide +kernel
theorem dX12_shift_193 : decode cX12_shift 193 = .ok (.istore 9, 2) := by decide +kernel
theorem dX12_shift_195 : decode cX12_shift 195 = .ok (.aload_n 0, 1) := by decide +kernel
theorem dX12_shift_196 : decode cX12_shift 196 = .ok (.getfield 111, 3) := by decide +kernel
theorem dX12_shift_199 : decode cX12_shift 199 = .ok (.iload 7, 2) := by decide +kernel
theorem dX12_shift_201 : decode cX12_shift 201 = .ok (.iload 9, 2) := by decide +kernel
theorem dX12_shift_203 : decode cX12_shift 203 = .ok (.iadd, 1) := by decide +kernel
theorem dX12_shift_204 : decode cX12_shift 204 = .ok (.aload_n 0, 1) := by decide +kernel
theorem dX12_shift_205 : decode cX12_shift 205 = .ok (.getfield 111, 3) := by decide +kernel
theorem dX12_shift_208 : decode cX12_shift 208 = .ok (.iload 6, 2) := by decide +kernel
theorem dX12_shift_210 : decode cX12_shift 210 = .ok (.iload 9, 2) := by decide +kernel
theorem dX12_shift_212 : decode cX12_shift 212 = .ok (.iadd, 1) := by decide +kernel
theorem dX12_shift_213 : decode cX12_shift 213 = .ok (.laload, 1) := by decide +kernel
theorem dX12_shift_214 : decode cX12_shift 214 = .ok (.lastore, 1) := by decide +kernel
theorem dX12_shift_215 : decode cX12_shift 215 = .ok (.iinc 8 1, 3) := by decide +kernel
theorem dX12_shift_218 : decode cX12_shift 218 = .ok (.goto (-51), 3) := by decide +kernel
theorem dX12_shift_221 : decode cX12_shift 221 = .ok (.iload 5, 2) := by decide +kernel
theorem dX12_shift_223 : decode cX12_shift 223 = .ok (.ireturn, 1) := by decide +kernel
theorem dX12_taken_40 : decode cX12_taken 40 = .ok (.aload_n 0, 1) := by decide +kernel
theorem dX12_taken_41 : decode cX12_taken 41 = .ok (.getfield 102, 3) := by decide +kernel
theorem dX12_taken_44 : decode cX12_taken 44 = .ok (.iload_n 1, 1) := by decide +kernel
theorem dX12_taken_45 : decode cX12_taken 45 = .ok (.iaload, 1) := by decide +kernel
theorem dX12_taken_46 : decode cX12_taken 46 = .ok (.ifCond .ge 6, 3) := by decide +kernel
theorem dX12_taken_49 : decode cX12_taken 49 = .ok (.bipush (-12), 2) := by decide +kernel
theorem dX12_taken_51 : decode cX12_taken 51 = .ok (.ireturn, 1) := by decide +kernel
theorem dX12_taken_52 : decode cX12_taken 52 = .ok (.aload_n 0, 1) := by decide +kernel
theorem dX12_taken_53 : decode cX12_taken 53 = .ok (.getfield 22, 3) := by decide +kernel
theorem dX12_taken_56 : decode cX12_taken 56 = .ok (.aload_n 0, 1) := by decide +kernel
theorem dX12_taken_57 : decode cX12_taken 57 = .ok (.getfield 102, 3) := by decide +kernel
theorem dX12_taken_60 : decode cX12_taken 60 = .ok (.iload_n 1, 1) := by decide +kernel
theorem dX12_taken_61 : decode cX12_taken 61 = .ok (.iaload, 1) := by decide +kernel
theorem dX12_taken_62 : decode cX12_taken 62 = .ok (.iaload, 1) := by decide +kernel
theorem dX12_taken_63 : decode cX12_taken 63 = .ok (.istore_n 3, 1) := by decide +kernel
theorem dX12_taken_64 : decode cX12_taken 64 = .ok (.iload_n 2, 1) := by decide +kernel
theorem dX12_taken_65 : decode cX12_taken 65 = .ok (.ifCond .eq 19, 3) := by decide +kernel
theorem dX12_taken_68 : decode cX12_taken 68 = .ok (.iload_n 2, 1) := by decide +kernel
theorem dX12_taken_69 : decode cX12_taken 69 = .ok (.iload_n 3, 1) := by decide +kernel
theorem dX12_taken_70 : decode cX12_taken 70 = .ok (.if_icmp .eq 14, 3) := by decide +kernel
theorem dX12_taken_73 : decode cX12_taken 73 = .ok (.iload_n 2, 1) := by decide +kernel
theorem dX12_taken_74 : decode cX12_taken 74 = .ok (.iconst 1, 1) := by decide +kernel
theorem dX12_taken_75 : decode cX12_taken 75 = .ok (.if_icmp .ne 13, 3) := by decide +kernel
theorem dX12_taken_78 : decode cX12_taken 78 = .ok (.iload_n 3, 1) := by decide +kernel
theorem dX12_taken_79 : decode cX12_taken 79 = .ok (.bipush 6, 2) := by decide +kernel
theorem dX12_taken_81 : decode cX12_taken 81 = .ok (.if_icmp .ne 7, 3) := by decide +kernel
theorem dX12_taken_84 : decode cX12_taken 84 = .ok (.iload_n 3, 1) := by decide +kernel
theorem dX12_taken_85 : decode cX12_taken 85 = .ok (.goto 5, 3) := by decide +kernel
theorem dX12_taken_88 : decode cX12_taken 88 = .ok (.bipush (-12), 2) := by decide +kernel
theorem dX12_taken_90 : decode cX12_taken 90 = .ok (.ireturn, 1) := by decide +kernel
theorem dX12_names_37 : decode cX12_names 37 = .ok (.bipush (-12), 2) := by decide +kernel
theorem dX12_names_39 : decode cX12_names 39 = .ok (.ireturn, 1) := by decide +kernel
theorem dX12_names_49 : decode cX12_names 49 = .ok (.aload_n 0, 1) := by decide +kernel
theorem dX12_names_50 : decode cX12_names 50 = .ok (.getfield 108, 3) := by decide +kernel
theorem dX12_names_53 : decode cX12_names 53 = .ok (.iload_n 1, 1) := by decide +kernel
theorem dX12_names_54 : decode cX12_names 54 = .ok (.iaload, 1) := by decide +kernel
theorem dX12_names_55 : decode cX12_names 55 = .ok (.goto 4, 3) := by decide +kernel
theorem dX12_names_100 : decode cX12_names 100 = .ok (.aload_n 0, 1) := by decide +kernel
theorem dX12_names_101 : decode cX12_names 101 = .ok (.getfield 111, 3) := by decide +kernel
theorem dX12_names_104 : decode cX12_names 104 = .ok (.bipush 60, 2) := by decide +kernel
theorem dX12_names_106 : decode cX12_names 106 = .ok (.iload_n 1, 1) := by decide +kernel
theorem dX12_names_107 : decode cX12_names 107 = .ok (.imul, 1) := by decide +kernel
theorem dX12_names_108 : decode cX12_names 108 = .ok (.iload 5, 2) := by decide +kernel
theorem dX12_names_110 : decode cX12_names 110 = .ok (.iadd, 1) := by decide +kernel
theorem dX12_names_111 : decode cX12_names 111 = .ok (.laload, 1) := by decide +kernel
theorem dX12_names_112 : decode cX12_names 112 = .ok (.l2i, 1) := by decide +kernel
theorem dX12_names_113 : decode cX12_names 113 = .ok (.goto 4, 3) := by decide +kernel
theorem dX12_names_130 : decode cX12_names 130 = .ok (.iload 5, 2) := by decide +kernel
theorem dX12_names_132 : decode cX12_names 132 = .ok (.iload 9, 2) := by decide +kernel
theorem dX12_names_134 : decode cX12_names 134 = .ok (.iadd, 1) := by decide +kernel
theorem dX12_names_135 : decode cX12_names 135 = .ok (.iload 4, 2) := by decide +kernel
theorem dX12_names_137 : decode cX12_names 137 = .ok (.if_icmp .ge 7, 3) := by decide +kernel
theorem dX12_names_140 : decode cX12_names 140 = .ok (.iconst 1, 1) := by decide +kernel
theorem dX12_names_141 : decode cX12_names 141 = .ok (.goto 4, 3) := by decide +kernel
theorem dX12_names_157 : decode cX12_names 157 = .ok (.iload 7, 2) := by decide +kernel
theorem dX12_names_159 : decode cX12_names 159 = .ok (.ifCond .eq 38, 3) := by decide +kernel
theorem dX12_names_162 : decode cX12_names 162 = .ok (.aload_n 0, 1) := by decide +kernel
theorem dX12_names_163 : decode cX12_names 163 = .ok (.getfield 115, 3) := by decide +kernel
theorem dX12_names_166 : decode cX12_names 166 = .ok (.iload 10, 2) := by decide +kernel
theorem dX12_names_168 : decode cX12_names 168 = .ok (.aload_n 0, 1) := by decide +kernel
theorem dX12_names_169 : decode cX12_names 169 = .ok (.getfield 111, 3) := by decide +kernel
theorem dX12_names_172 : decode cX12_names 172 = .ok (.bipush 60, 2) := by decide +kernel
theorem dX12_names_174 : decode cX12_names 174 = .ok (.iload_n 1, 1) := by decide +kernel
theorem dX12_names_175 : decode cX12_names 175 = .ok (.imul, 1) := by decide +kernel
theorem dX12_names_176 : decode cX12_names 176 = .ok (.iload 5, 2) := by decide +kernel
theorem dX12_names_178 : decode cX12_names 178 = .ok (.iadd, 1) := by decide +kernel
theorem dX12_names_179 : decode cX12_names 179 = .ok (.iconst 1, 1) := by decide +kernel
theorem dX12_names_180 : decode cX12_names 180 = .ok (.iadd, 1) := by decide +kernel
theorem dX12_names_181 : decode cX12_names 181 = .ok (.iload 10, 2) := by decide +kernel
theorem dX12_names_183 : decode cX12_names 183 = .ok (.iadd, 1) := by decide +kernel
theorem dX12_names_184 : decode cX12_names 184 = .ok (.laload, 1) := by decide +kernel
theorem dX12_names_185 : decode cX12_names 185 = .ok (.l2i, 1) := by decide +kernel
theorem dX12_names_186 : decode cX12_names 186 = .ok (.sipush 255, 3) := by decide +kernel
theorem dX12_names_189 : decode cX12_names 189 = .ok (.iand, 1) := by decide +kernel
theorem dX12_names_190 : decode cX12_names 190 = .ok (.iastore, 1) := by decide +kernel
theorem dX12_names_191 : decode cX12_names 191 = .ok (.iinc 10 1, 3) := by decide +kernel
theorem dX12_names_194 : decode cX12_names 194 = .ok (.goto (-44), 3) := by decide +kernel
theorem dX12_names_202 : decode cX12_names 202 = .ok (.aload_n 0, 1) := by decide +kernel
theorem dX12_names_203 : decode cX12_names 203 = .ok (.iload 9, 2) := by decide +kernel
theorem dX12_names_205 : decode cX12_names 205 = .ok (.invokevirtual 149, 3) := by decide +kernel
theorem dX12_names_208 : decode cX12_names 208 = .ok (.ifCond .ge 7, 3) := by decide +kernel
theorem dX12_names_211 : decode cX12_names 211 = .ok (.iconst 1, 1) := by decide +kernel
theorem dX12_names_212 : decode cX12_names 212 = .ok (.goto 4, 3) := by decide +kernel
theorem dX12_names_223 : decode cX12_names 223 = .ok (.iload 10, 2) := by decide +kernel
theorem dX12_names_225 : decode cX12_names 225 = .ok (.ifCond .eq 12, 3) := by decide +kernel
theorem dX12_names_228 : decode cX12_names 228 = .ok (.aload_n 0, 1) := by decide +kernel
theorem dX12_names_229 : decode cX12_names 229 = .ok (.getfield 133, 3) := by decide +kernel
theorem dX12_names_232 : decode cX12_names 232 = .ok (.bipush 40, 2) := by decide +kernel
theorem dX12_names_234 : decode cX12_names 234 = .ok (.if_icmp .eq 7, 3) := by decide +kernel
theorem dX12_names_237 : decode cX12_names 237 = .ok (.iconst 1, 1) := by decide +kernel
theorem dX12_names_238 : decode cX12_names 238 = .ok (.goto 4, 3) := by decide +kernel
theorem dX12_names_249 : decode cX12_names 249 = .ok (.iload 10, 2) := by decide +kernel
theorem dX12_names_251 : decode cX12_names 251 = .ok (.ifCond .eq 12, 3) := by decide +kernel
theorem dX12_names_254 : decode cX12_names 254 = .ok (.aload_n 0, 1) := by decide +kernel
theorem dX12_names_255 : decode cX12_names 255 = .ok (.iload 9, 2) := by decide +kernel
theorem dX12_names_257 : decode cX12_names 257 = .ok (.invokevirtual 153, 3) := by decide +kernel
theorem dX12_names_260 : decode cX12_names 260 = .ok (.iinc 6 1, 3) := by decide +kernel
theorem dX12_names_270 : decode cX12_names 270 = .ok (.iconst 1, 1) := by decide +kernel
theorem dX12_names_271 : decode cX12_names 271 = .ok (.iload 9, 2) := by decide +kernel
theorem dX12_names_273 : decode cX12_names 273 = .ok (.iadd, 1) := by decide +kernel
theorem dX12_names_274 : decode cX12_names 274 = .ok (.goto 4, 3) := by decide +kernel
theorem dX12_count_78 : decode cX12_count 78 = .ok (.iload_n 2, 1) := by decide +kernel
theorem dX12_count_79 : decode cX12_count 79 = .ok (.aload_n 0, 1) := by decide +kernel
theorem dX12_count_80 : decode cX12_count 80 = .ok (.iload_n 3, 1) := by decide +kernel
theorem dX12_count_81 : decode cX12_count 81 = .ok (.iload_n 1, 1) := by decide +kernel
theorem dX12_count_82 : decode cX12_count 82 = .ok (.iconst 4, 1) := by decide +kernel
theorem dX12_count_83 : decode cX12_count 83 = .ok (.if_icmp .ne 7, 3) := by decide +kernel
theorem dX12_count_86 : decode cX12_count 86 = .ok (.iconst 1, 1) := by decide +kernel
theorem dX12_count_87 : decode cX12_count 87 = .ok (.goto 4, 3) := by decide +kernel
theorem dX12_count_90 : decode cX12_count 90 = .ok (.iconst 0, 1) := by decide +kernel
theorem dX12_count_91 : decode cX12_count 91 = .ok (.invokevirtual 173, 3) := by decide +kernel
theorem dX12_count_94 : decode cX12_count 94 = .ok (.iadd, 1) := by decide +kernel
theorem dX12_count_95 : decode cX12_count 95 = .ok (.istore_n 2, 1) := by decide +kernel
theorem dX12_count_96 : decode cX12_count 96 = .ok (.iinc 3 1, 3) := by decide +kernel
theorem dX12_count_99 : decode cX12_count 99 = .ok (.goto (-29), 3) := by decide +kernel
theorem dJ6_bitCount_0f7a4_0 : decode cJ6_bitCount_0f7a4 0 = .ok (.iload_n 0, 1) := by decide +kernel
theorem dJ6_bitCount_0f7a4_1 : decode cJ6_bitCount_0f7a4 1 = .ok (.iload_n 0, 1) := by decide +kernel
theorem dJ6_bitCount_0f7a4_2 : decode cJ6_bitCount_0f7a4 2 = .ok (.iconst 1, 1) := by decide +kernel
theorem dJ6_bitCount_0f7a4_3 : decode cJ6_bitCount_0f7a4 3 = .ok (.iushr, 1) := by decide +kernel
theorem dJ6_bitCount_0f7a4_4 : decode cJ6_bitCount_0f7a4 4 = .ok (.ldc_w 265, 3) := by decide +kernel
theorem dJ6_bitCount_0f7a4_7 : decode cJ6_bitCount_0f7a4 7 = .ok (.iand, 1) := by decide +kernel
theorem dJ6_bitCount_0f7a4_8 : decode cJ6_bitCount_0f7a4 8 = .ok (.isub, 1) := by decide +kernel
theorem dJ6_bitCount_0f7a4_9 : decode cJ6_bitCount_0f7a4 9 = .ok (.istore_n 0, 1) := by decide +kernel
theorem dJ6_bitCount_0f7a4_10 : decode cJ6_bitCount_0f7a4 10 = .ok (.iload_n 0, 1) := by decide +kernel
theorem dJ6_bitCount_0f7a4_11 : decode cJ6_bitCount_0f7a4 11 = .ok (.ldc_w 266, 3) := by decide +kernel
theorem dJ6_bitCount_0f7a4_14 : decode cJ6_bitCount_0f7a4 14 = .ok (.iand, 1) := by decide +kernel
theorem dJ6_bitCount_0f7a4_15 : decode cJ6_bitCount_0f7a4 15 = .ok (.iload_n 0, 1) := by decide +kernel
theorem dJ6_bitCount_0f7a4_16 : decode cJ6_bitCount_0f7a4 16 = .ok (.iconst 2, 1) := by decide +kernel
theorem dJ6_bitCount_0f7a4_17 : decode cJ6_bitCount_0f7a4 17 = .ok (.iushr, 1) := by decide +kernel
theorem dJ6_bitCount_0f7a4_18 : decode cJ6_bitCount_0f7a4 18 = .ok (.ldc_w 266, 3) := by decide +kernel
theorem dJ6_bitCount_0f7a4_21 : decode cJ6_bitCount_0f7a4 21 = .ok (.iand, 1) := by decide +kernel
theorem dJ6_bitCount_0f7a4_22 : decode cJ6_bitCount_0f7a4 22 = .ok (.iadd, 1) := by decide +kernel
theorem dJ6_bitCount_0f7a4_23 : decode cJ6_bitCount_0f7a4 23 = .ok (.istore_n 0, 1) := by decide +kernel
theorem dJ6_bitCount_0f7a4_24 : decode cJ6_bitCount_0f7a4 24 = .ok (.iload_n 0, 1) := by decide +kernel
theorem dJ6_bitCount_0f7a4_25 : decode cJ6_bitCount_0f7a4 25 = .ok (.iload_n 0, 1) := by decide +kernel
theorem dJ6_bitCount_0f7a4_26 : decode cJ6_bitCount_0f7a4 26 = .ok (.iconst 4, 1) := by decide +kernel
theorem dJ6_bitCount_0f7a4_27 : decode cJ6_bitCount_0f7a4 27 = .ok (.iushr, 1) := by decide +kernel
theorem dJ6_bitCount_0f7a4_28 : decode cJ6_bitCount_0f7a4 28 = .ok (.iadd, 1) := by decide +kernel
theorem dJ6_bitCount_0f7a4_29 : decode cJ6_bitCount_0f7a4 29 = .ok (.ldc_w 267, 3) := by decide +kernel
theorem dJ6_bitCount_0f7a4_32 : decode cJ6_bitCount_0f7a4 32 = .ok (.iand, 1) := by decide +kernel
theorem dJ6_bitCount_0f7a4_33 : decode cJ6_bitCount_0f7a4 33 = .ok (.istore_n 0, 1) := by decide +kernel
theorem dJ6_bitCount_0f7a4_34 : decode cJ6_bitCount_0f7a4 34 = .ok (.iload_n 0, 1) := by decide +kernel
theorem dJ6_bitCount_0f7a4_35 : decode cJ6_bitCount_0f7a4 35 = .ok (.iload_n 0, 1) := by decide +kernel
theorem dJ6_bitCount_0f7a4_36 : decode cJ6_bitCount_0f7a4 36 = .ok (.bipush 8, 2) := by decide +kernel
theorem dJ6_bitCount_0f7a4_38 : decode cJ6_bitCount_0f7a4 38 = .ok (.iushr, 1) := by decide +kernel
theorem dJ6_bitCount_0f7a4_39 : decode cJ6_bitCount_0f7a4 39 = .ok (.iadd, 1) := by decide +kernel
theorem dJ6_bitCount_0f7a4_40 : decode cJ6_bitCount_0f7a4 40 = .ok (.istore_n 0, 1) := by decide +kernel
theorem dJ6_bitCount_0f7a4_41 : decode cJ6_bitCount_0f7a4 41 = .ok (.iload_n 0, 1) := by decide +kernel
theorem dJ6_bitCount_0f7a4_42 : decode cJ6_bitCount_0f7a4 42 = .ok (.iload_n 0, 1) := by decide +kernel
theorem dJ6_bitCount_0f7a4_43 : decode cJ6_bitCount_0f7a4 43 = .ok (.bipush 16, 2) := by decide +kernel
theorem dJ6_bitCount_0f7a4_45 : decode cJ6_bitCount_0f7a4 45 = .ok (.iushr, 1) := by decide +kernel
theorem dJ6_bitCount_0f7a4_46 : decode cJ6_bitCount_0f7a4 46 = .ok (.iadd, 1) := by decide +kernel
theorem dJ6_bitCount_0f7a4_47 : decode cJ6_bitCount_0f7a4 47 = .ok (.istore_n 0, 1) := by decide +kernel
theorem dJ6_bitCount_0f7a4_48 : decode cJ6_bitCount_0f7a4 48 = .ok (.iload_n 0, 1) := by decide +kernel
theorem dJ6_bitCount_0f7a4_49 : decode cJ6_bitCount_0f7a4 49 = .ok (.bipush 63, 2) := by decide +kernel
theorem dJ6_bitCount_0f7a4_51 : decode cJ6_bitCount_0f7a4 51 = .ok (.iand, 1) := by decide +kernel
theorem dJ6_bitCount_0f7a4_52 : decode cJ6_bitCount_0f7a4 52 = .ok (.ireturn, 1) := by decide +kernel
theorem dJ7_fill_031fb_0 : decode cJ7_fill_031fb 0 = .ok (.iconst 0, 1) := by decide +kernel
theorem dJ7_fill_031fb_1 : decode cJ7_fill_031fb 1 = .ok (.istore_n 2, 1) := by decide +kernel
theorem dJ7_fill_031fb_2 : decode cJ7_fill_031fb 2 = .ok (.aload_n 0, 1) := by decide +kernel
theorem dJ7_fill_031fb_3 : decode cJ7_fill_031fb 3 = .ok (.arraylength, 1) := by decide +kernel
theorem dJ7_fill_031fb_4 : decode cJ7_fill_031fb 4 = .ok (.istore_n 3, 1) := by decide +kernel
theorem dJ7_fill_031fb_5 : decode cJ7_fill_031fb 5 = .ok (.iload_n 2, 1) := by decide +kernel
theorem dJ7_fill_031fb_6 : decode cJ7_fill_031fb 6 = .ok (.iload_n 3, 1) := by decide +kernel
theorem dJ7_fill_031fb_7 : decode cJ7_fill_031fb 7 = .ok (.if_icmp .ge 13, 3) := by decide +kernel
theorem dJ7_fill_031fb_10 : decode cJ7_fill_031fb 10 = .ok (.aload_n 0, 1) := by decide +kernel
theorem dJ7_fill_031fb_11 : decode cJ7_fill_031fb 11 = .ok (.iload_n 2, 1) := by decide +kernel
theorem dJ7_fill_031fb_12 : decode cJ7_fill_031fb 12 = .ok (.iload_n 1, 1) := by decide +kernel
theorem dJ7_fill_031fb_13 : decode cJ7_fill_031fb 13 = .ok (.bastore, 1) := by decide +kernel
theorem dJ7_fill_031fb_14 : decode cJ7_fill_031fb 14 = .ok (.iinc 2 1, 3) := by decide +kernel
theorem dJ7_fill_031fb_17 : decode cJ7_fill_031fb 17 = .ok (.goto (-12), 3) := by decide +kernel
theorem dJ7_fill_031fb_20 : decode cJ7_fill_031fb 20 = .ok (.return_, 1) := by decide +kernel
end
