theorem dX0_run_0 : decode cX0_run 0 = .ok (.aload_n 0, 1) := by decide +kernel
theorem dX0_run_1 : decode cX0_run 1 = .ok (.iload_n 1, 1) := by decide +kernel
theorem dX0_run_2 : decode cX0_run 2 = .ok (.putfield 22, 3) := by decide +kernel
theorem dX0_run_5 : decode cX0_run 5 = .ok (.aload_n 0, 1) := by decide +kernel
theorem dX0_run_6 : decode cX0_run 6 = .ok (.iload_n 2, 1) := by decide +kernel
theorem dX0_run_7 : decode cX0_run 7 = .ok (.putfield 25, 3) := by decide +kernel
theorem dX0_run_10 : decode cX0_run 10 = .ok (.aload_n 0, 1) := by decide +kernel
theorem dX0_run_11 : decode cX0_run 11 = .ok (.iload_n 3, 1) := by decide +kernel
theorem dX0_run_12 : decode cX0_run 12 = .ok (.putfield 19, 3) := by decide +kernel
theorem dX0_run_15 : decode cX0_run 15 = .ok (.iload 4, 2) := by decide +kernel
theorem dX0_run_17 : decode cX0_run 17 = .ok (.tableswitch 75 0 3 #[31, 42, 53, 64], 31) := by decide +kernel
theorem dX0_run_48 : decode cX0_run 48 = .ok (.aload_n 0, 1) := by decide +kernel
theorem dX0_run_49 : decode cX0_run 49 = .ok (.aload_n 0, 1) := by decide +kernel
theorem dX0_run_50 : decode cX0_run 50 = .ok (.getfield 19, 3) := by decide +kernel
theorem dX0_run_53 : decode cX0_run 53 = .ok (.iload 5, 2) := by decide +kernel
theorem dX0_run_55 : decode cX0_run 55 = .ok (.invokevirtual 28, 3) := by decide +kernel
theorem dX0_run_58 : decode cX0_run 58 = .ok (.ireturn, 1) := by decide +kernel
theorem dX0_run_59 : decode cX0_run 59 = .ok (.aload_n 0, 1) := by decide +kernel
theorem dX0_run_60 : decode cX0_run 60 = .ok (.aload_n 0, 1) := by decide +kernel
theorem dX0_run_61 : decode cX0_run 61 = .ok (.getfield 19, 3) := by decide +kernel
theorem dX0_run_64 : decode cX0_run 64 = .ok (.iload 5, 2) := by decide +kernel
theorem dX0_run_66 : decode cX0_run 66 = .ok (.invokevirtual 32, 3) := by decide +kernel
theorem dX0_run_69 : decode cX0_run 69 = .ok (.ireturn, 1) := by decide +kernel
theorem dX0_run_70 : decode cX0_run 70 = .ok (.aload_n 0, 1) := by decide +kernel
theorem dX0_run_71 : decode cX0_run 71 = .ok (.aload_n 0, 1) := by decide +kernel
theorem dX0_run_72 : decode cX0_run 72 = .ok (.getfield 19, 3) := by decide +kernel
theorem dX0_run_75 : decode cX0_run 75 = .ok (.iload 5, 2) := by decide +kernel
theorem dX0_run_77 : decode cX0_run 77 = .ok (.invokevirtual 35, 3) := by decide +kernel
theorem dX0_run_80 : decode cX0_run 80 = .ok (.ireturn, 1) := by decide +kernel
theorem dX0_run_81 : decode cX0_run 81 = .ok (.aload_n 0, 1) := by decide +kernel
theorem dX0_run_82 : decode cX0_run 82 = .ok (.aload_n 0, 1) := by decide +kernel
theorem dX0_run_83 : decode cX0_run 83 = .ok (.getfield 19, 3) := by decide +kernel
theorem dX0_run_86 : decode cX0_run 86 = .ok (.iload 5, 2) := by decide +kernel
theorem dX0_run_88 : decode cX0_run 88 = .ok (.invokevirtual 38, 3) := by decide +kernel
theorem dX0_run_91 : decode cX0_run 91 = .ok (.ireturn, 1) := by decide +kernel
theorem dX0_run_92 : decode cX0_run 92 = .ok (.iconst 0, 1) := by decide +kernel
theorem dX0_run_93 : decode cX0_run 93 = .ok (.ireturn, 1) := by decide +kernel
theorem dX0_begin_0 : decode cX0_begin 0 = .ok (.aload_n 0, 1) := by decide +kernel
theorem dX0_begin_1 : decode cX0_begin 1 = .ok (.getfield 15, 3) := by decide +kernel
theorem dX0_begin_4 : decode cX0_begin 4 = .ok (.bipush 24, 2) := by decide +kernel
theorem dX0_begin_6 : decode cX0_begin 6 = .ok (.if_icmp .ge 13, 3) := by decide +kernel
theorem dX0_begin_9 : decode cX0_begin 9 = .ok (.aload_n 0, 1) := by decide +kernel
theorem dX0_begin_10 : decode cX0_begin 10 = .ok (.getfield 9, 3) := by decide +kernel
theorem dX0_begin_13 : decode cX0_begin 13 = .ok (.aload_n 0, 1) := by decide +kernel
theorem dX0_begin_14 : decode cX0_begin 14 = .ok (.getfield 15, 3) := by decide +kernel
theorem dX0_begin_17 : decode cX0_begin 17 = .ok (.iload_n 1, 1) := by decide +kernel
theorem dX0_begin_18 : decode cX0_begin 18 = .ok (.iastore, 1) := by decide +kernel
theorem dX0_begin_19 : decode cX0_begin 19 = .ok (.aload_n 0, 1) := by decide +kernel
theorem dX0_begin_20 : decode cX0_begin 20 = .ok (.dup, 1) := by decide +kernel
theorem dX0_begin_21 : decode cX0_begin 21 = .ok (.getfield 15, 3) := by decide +kernel
theorem dX0_begin_24 : decode cX0_begin 24 = .ok (.iconst 1, 1) := by decide +kernel
theorem dX0_begin_25 : decode cX0_begin 25 = .ok (.iadd, 1) := by decide +kernel
theorem dX0_begin_26 : decode cX0_begin 26 = .ok (.putfield 15, 3) := by decide +kernel
theorem dX0_begin_29 : decode cX0_begin 29 = .ok (.return_, 1) := by decide +kernel
theorem dX0_findsFrom_0 : decode cX0_findsFrom 0 = .ok (.iload_n 1, 1) := by decide +kernel
theorem dX0_findsFrom_1 : decode cX0_findsFrom 1 = .ok (.lookupswitch 83 #[(1, 50), (5, 68), (6, 35)], 35) := by decide +kernel
theorem dX0_findsFrom_36 : decode cX0_findsFrom 36 = .ok (.aload_n 0, 1) := by decide +kernel
theorem dX0_findsFrom_37 : decode cX0_findsFrom 37 = .ok (.bipush 71, 2) := by decide +kernel
theorem dX0_findsFrom_39 : decode cX0_findsFrom 39 = .ok (.invokevirtual 41, 3) := by decide +kernel
theorem dX0_findsFrom_42 : decode cX0_findsFrom 42 = .ok (.aload_n 0, 1) := by decide +kernel
theorem dX0_findsFrom_43 : decode cX0_findsFrom 43 = .ok (.iconst 1, 1) := by decide +kernel
theorem dX0_findsFrom_44 : decode cX0_findsFrom 44 = .ok (.iload_n 2, 1) := by decide +kernel
theorem dX0_findsFrom_45 : decode cX0_findsFrom 45 = .ok (.invokevirtual 28, 3) := by decide +kernel
theorem dX0_findsFrom_48 : decode cX0_findsFrom 48 = .ok (.iconst 2, 1) := by decide +kernel
theorem dX0_findsFrom_49 : decode cX0_findsFrom 49 = .ok (.imul, 1) := by decide +kernel
theorem dX0_findsFrom_50 : decode cX0_findsFrom 50 = .ok (.ireturn, 1) := by decide +kernel
theorem dX0_findsFrom_51 : decode cX0_findsFrom 51 = .ok (.aload_n 0, 1) := by decide +kernel
theorem dX0_findsFrom_52 : decode cX0_findsFrom 52 = .ok (.bipush 20, 2) := by decide +kernel
theorem dX0_findsFrom_54 : decode cX0_findsFrom 54 = .ok (.invokevirtual 41, 3) := by decide +kernel
theorem dX0_findsFrom_57 : decode cX0_findsFrom 57 = .ok (.aload_n 0, 1) := by decide +kernel
theorem dX0_findsFrom_58 : decode cX0_findsFrom 58 = .ok (.iconst 0, 1) := by decide +kernel
theorem dX0_findsFrom_59 : decode cX0_findsFrom 59 = .ok (.iload_n 2, 1) := by decide +kernel
theorem dX0_findsFrom_60 : decode cX0_findsFrom 60 = .ok (.invokevirtual 28, 3) := by decide +kernel
theorem dX0_findsFrom_63 : decode cX0_findsFrom 63 = .ok (.aload_n 0, 1) := by decide +kernel
theorem dX0_findsFrom_64 : decode cX0_findsFrom 64 = .ok (.getfield 25, 3) := by decide +kernel
theorem dX0_findsFrom_67 : decode cX0_findsFrom 67 = .ok (.iadd, 1) := by decide +kernel
theorem dX0_findsFrom_68 : decode cX0_findsFrom 68 = .ok (.ireturn, 1) := by decide +kernel
theorem dX0_findsFrom_69 : decode cX0_findsFrom 69 = .ok (.aload_n 0, 1) := by decide +kernel
theorem dX0_findsFrom_70 : decode cX0_findsFrom 70 = .ok (.bipush 60, 2) := by decide +kernel
theorem dX0_findsFrom_72 : decode cX0_findsFrom 72 = .ok (.invokevirtual 41, 3) := by decide +kernel
theorem dX0_findsFrom_75 : decode cX0_findsFrom 75 = .ok (.aload_n 0, 1) := by decide +kernel
theorem dX0_findsFrom_76 : decode cX0_findsFrom 76 = .ok (.iconst 0, 1) := by decide +kernel
theorem dX0_findsFrom_77 : decode cX0_findsFrom 77 = .ok (.iload_n 2, 1) := by decide +kernel
theorem dX0_findsFrom_78 : decode cX0_findsFrom 78 = .ok (.iconst 1, 1) := by decide +kernel
theorem dX0_findsFrom_79 : decode cX0_findsFrom 79 = .ok (.iadd, 1) := by decide +kernel
theorem dX0_findsFrom_80 : decode cX0_findsFrom 80 = .ok (.invokevirtual 28, 3) := by decide +kernel
theorem dX0_findsFrom_83 : decode cX0_findsFrom 83 = .ok (.ireturn, 1) := by decide +kernel
theorem dX0_findsFrom_84 : decode cX0_findsFrom 84 = .ok (.aload_n 0, 1) := by decide +kernel
theorem dX0_findsFrom_85 : decode cX0_findsFrom 85 = .ok (.iconst 1, 1) := by decide +kernel
theorem dX0_findsFrom_86 : decode cX0_findsFrom 86 = .ok (.invokevirtual 41, 3) := by decide +kernel
theorem dX0_findsFrom_89 : decode cX0_findsFrom 89 = .ok (.iload_n 2, 1) := by decide +kernel
theorem dX0_findsFrom_90 : decode cX0_findsFrom 90 = .ok (.aload_n 0, 1) := by decide +kernel
theorem dX0_findsFrom_91 : decode cX0_findsFrom 91 = .ok (.getfield 22, 3) := by decide +kernel
theorem dX0_findsFrom_94 : decode cX0_findsFrom 94 = .ok (.iadd, 1) := by decide +kernel
theorem dX0_findsFrom_95 : decode cX0_findsFrom 95 = .ok (.ireturn, 1) := by decide +kernel
theorem dX0_keepsFrom_0 : decode cX0_keepsFrom 0 = .ok (.iload_n 1, 1) := by decide +kernel
theorem dX0_keepsFrom_1 : decode cX0_keepsFrom 1 = .ok (.lookupswitch 63 #[(3, 49), (6, 27)], 27) := by decide +kernel
theorem dX0_keepsFrom_28 : decode cX0_keepsFrom 28 = .ok (.aload_n 0, 1) := by decide +kernel
theorem dX0_keepsFrom_29 : decode cX0_keepsFrom 29 = .ok (.bipush 70, 2) := by decide +kernel
theorem dX0_keepsFrom_31 : decode cX0_keepsFrom 31 = .ok (.invokevirtual 41, 3) := by decide +kernel
theorem dX0_keepsFrom_34 : decode cX0_keepsFrom 34 = .ok (.aload_n 0, 1) := by decide +kernel
theorem dX0_keepsFrom_35 : decode cX0_keepsFrom 35 = .ok (.iconst 1, 1) := by decide +kernel
theorem dX0_keepsFrom_36 : decode cX0_keepsFrom 36 = .ok (.iload_n 2, 1) := by decide +kernel
theorem dX0_keepsFrom_37 : decode cX0_keepsFrom 37 = .ok (.invokevirtual 32, 3) := by decide +kernel
theorem dX0_keepsFrom_40 : decode cX0_keepsFrom 40 = .ok (.istore_n 3, 1) := by decide +kernel
theorem dX0_keepsFrom_41 : decode cX0_keepsFrom 41 = .ok (.iload_n 3, 1) := by decide +kernel
theorem dX0_keepsFrom_42 : decode cX0_keepsFrom 42 = .ok (.aload_n 0, 1) := by decide +kernel
theorem dX0_keepsFrom_43 : decode cX0_keepsFrom 43 = .ok (.iconst 1, 1) := by decide +kernel
theorem dX0_keepsFrom_44 : decode cX0_keepsFrom 44 = .ok (.iload_n 2, 1) := by decide +kernel
theorem dX0_keepsFrom_45 : decode cX0_keepsFrom 45 = .ok (.invokevirtual 35, 3) := by decide +kernel
theorem dX0_keepsFrom_48 : decode cX0_keepsFrom 48 = .ok (.iadd, 1) := by decide +kernel
theorem dX0_keepsFrom_49 : decode cX0_keepsFrom 49 = .ok (.ireturn, 1) := by decide +kernel
theorem dX0_keepsFrom_50 : decode cX0_keepsFrom 50 = .ok (.aload_n 0, 1) := by decide +kernel
theorem dX0_keepsFrom_51 : decode cX0_keepsFrom 51 = .ok (.bipush 40, 2) := by decide +kernel
theorem dX0_keepsFrom_53 : decode cX0_keepsFrom 53 = .ok (.invokevirtual 41, 3) := by decide +kernel
theorem dX0_keepsFrom_56 : decode cX0_keepsFrom 56 = .ok (.aload_n 0, 1) := by decide +kernel
theorem dX0_keepsFrom_57 : decode cX0_keepsFrom 57 = .ok (.iconst 0, 1) := by decide +kernel
theorem dX0_keepsFrom_58 : decode cX0_keepsFrom 58 = .ok (.iload_n 2, 1) := by decide +kernel
theorem dX0_keepsFrom_59 : decode cX0_keepsFrom 59 = .ok (.invokevirtual 32, 3) := by decide +kernel
theorem dX0_keepsFrom_62 : decode cX0_keepsFrom 62 = .ok (.ineg, 1) := by decide +kernel
theorem dX0_keepsFrom_63 : decode cX0_keepsFrom 63 = .ok (.ireturn, 1) := by decide +kernel
theorem dX0_keepsFrom_64 : decode cX0_keepsFrom 64 = .ok (.aload_n 0, 1) := by decide +kernel
theorem dX0_keepsFrom_65 : decode cX0_keepsFrom 65 = .ok (.bipush 10, 2) := by decide +kernel
theorem dX0_keepsFrom_67 : decode cX0_keepsFrom 67 = .ok (.invokevirtual 41, 3) := by decide +kernel
theorem dX0_keepsFrom_70 : decode cX0_keepsFrom 70 = .ok (.aload_n 0, 1) := by decide +kernel
theorem dX0_keepsFrom_71 : decode cX0_keepsFrom 71 = .ok (.aload_n 0, 1) := by decide +kernel
theorem dX0_keepsFrom_72 : decode cX0_keepsFrom 72 = .ok (.getfield 19, 3) := by decide +kernel
theorem dX0_keepsFrom_75 : decode cX0_keepsFrom 75 = .ok (.iload_n 2, 1) := by decide +kernel
theorem dX0_keepsFrom_76 : decode cX0_keepsFrom 76 = .ok (.invokevirtual 28, 3) := by decide +kernel
theorem dX0_keepsFrom_79 : decode cX0_keepsFrom 79 = .ok (.iconst 2, 1) := by decide +kernel
theorem dX0_keepsFrom_80 : decode cX0_keepsFrom 80 = .ok (.imul, 1) := by decide +kernel
theorem dX0_keepsFrom_81 : decode cX0_keepsFrom 81 = .ok (.ireturn, 1) := by decide +kernel
theorem dX0_movesFrom_0 : decode cX0_movesFrom 0 = .ok (.iload_n 1, 1) := by decide +kernel
theorem dX0_movesFrom_1 : decode cX0_movesFrom 1 = .ok (.lookupswitch 67 #[(2, 27), (5, 42)], 27) := by decide +kernel
theorem dX0_movesFrom_28 : decode cX0_movesFrom 28 = .ok (.aload_n 0, 1) := by decide +kernel
theorem dX0_movesFrom_29 : decode cX0_movesFrom 29 = .ok (.bipush 30, 2) := by decide +kernel
theorem dX0_movesFrom_31 : decode cX0_movesFrom 31 = .ok (.invokevirtual 41, 3) := by decide +kernel
theorem dX0_movesFrom_34 : decode cX0_movesFrom 34 = .ok (.aload_n 0, 1) := by decide +kernel
theorem dX0_movesFrom_35 : decode cX0_movesFrom 35 = .ok (.iconst 0, 1) := by decide +kernel
theorem dX0_movesFrom_36 : decode cX0_movesFrom 36 = .ok (.iload_n 2, 1) := by decide +kernel
theorem dX0_movesFrom_37 : decode cX0_movesFrom 37 = .ok (.invokevirtual 35, 3) := by decide +kernel
theorem dX0_movesFrom_40 : decode cX0_movesFrom 40 = .ok (.iconst 3, 1) := by decide +kernel
theorem dX0_movesFrom_41 : decode cX0_movesFrom 41 = .ok (.imul, 1) := by decide +kernel
theorem dX0_movesFrom_42 : decode cX0_movesFrom 42 = .ok (.ireturn, 1) := by decide +kernel
theorem dX0_movesFrom_43 : decode cX0_movesFrom 43 = .ok (.aload_n 0, 1) := by decide +kernel
theorem dX0_movesFrom_44 : decode cX0_movesFrom 44 = .ok (.bipush 61, 2) := by decide +kernel
theorem dX0_movesFrom_46 : decode cX0_movesFrom 46 = .ok (.invokevirtual 41, 3) := by decide +kernel
theorem dX0_movesFrom_49 : decode cX0_movesFrom 49 = .ok (.aload_n 0, 1) := by decide +kernel
theorem dX0_movesFrom_50 : decode cX0_movesFrom 50 = .ok (.iconst 0, 1) := by decide +kernel
theorem dX0_movesFrom_51 : decode cX0_movesFrom 51 = .ok (.iload_n 2, 1) := by decide +kernel
theorem dX0_movesFrom_52 : decode cX0_movesFrom 52 = .ok (.invokevirtual 35, 3) := by decide +kernel
theorem dX0_movesFrom_55 : decode cX0_movesFrom 55 = .ok (.istore_n 3, 1) := by decide +kernel
theorem dX0_movesFrom_56 : decode cX0_movesFrom 56 = .ok (.iload_n 3, 1) := by decide +kernel
theorem dX0_movesFrom_57 : decode cX0_movesFrom 57 = .ok (.aload_n 0, 1) := by decide +kernel
theorem dX0_movesFrom_58 : decode cX0_movesFrom 58 = .ok (.aload_n 0, 1) := by decide +kernel
theorem dX0_movesFrom_59 : decode cX0_movesFrom 59 = .ok (.getfield 19, 3) := by decide +kernel
theorem dX0_movesFrom_62 : decode cX0_movesFrom 62 = .ok (.iconst 2, 1) := by decide +kernel
theorem dX0_movesFrom_63 : decode cX0_movesFrom 63 = .ok (.invokevirtual 28, 3) := by decide +kernel
theorem dX0_movesFrom_66 : decode cX0_movesFrom 66 = .ok (.isub, 1) := by decide +kernel
theorem dX0_movesFrom_67 : decode cX0_movesFrom 67 = .ok (.ireturn, 1) := by decide +kernel
theorem dX0_movesFrom_68 : decode cX0_movesFrom 68 = .ok (.aload_n 0, 1) := by decide +kernel
theorem dX0_movesFrom_69 : decode cX0_movesFrom 69 = .ok (.bipush 11, 2) := by decide +kernel
theorem dX0_movesFrom_71 : decode cX0_movesFrom 71 = .ok (.invokevirtual 41, 3) := by decide +kernel
theorem dX0_movesFrom_74 : decode cX0_movesFrom 74 = .ok (.iload_n 2, 1) := by decide +kernel
theorem dX0_movesFrom_75 : decode cX0_movesFrom 75 = .ok (.aload_n 0, 1) := by decide +kernel
theorem dX0_movesFrom_76 : decode cX0_movesFrom 76 = .ok (.getfield 22, 3) := by decide +kernel
theorem dX0_movesFrom_79 : decode cX0_movesFrom 79 = .ok (.ixor, 1) := by decide +kernel
theorem dX0_movesFrom_80 : decode cX0_movesFrom 80 = .ok (.ireturn, 1) := by decide +kernel
theorem dX0_tellsFrom_0 : decode cX0_tellsFrom 0 = .ok (.iload_n 1, 1) := by decide +kernel
theorem dX0_tellsFrom_1 : decode cX0_tellsFrom 1 = .ok (.iconst 4, 1) := by decide +kernel
theorem dX0_tellsFrom_2 : decode cX0_tellsFrom 2 = .ok (.if_icmp .ne 19, 3) := by decide +kernel
theorem dX0_tellsFrom_5 : decode cX0_tellsFrom 5 = .ok (.aload_n 0, 1) := by decide +kernel
theorem dX0_tellsFrom_6 : decode cX0_tellsFrom 6 = .ok (.bipush 50, 2) := by decide +kernel
theorem dX0_tellsFrom_8 : decode cX0_tellsFrom 8 = .ok (.invokevirtual 41, 3) := by decide +kernel
theorem dX0_tellsFrom_11 : decode cX0_tellsFrom 11 = .ok (.aload_n 0, 1) := by decide +kernel
theorem dX0_tellsFrom_12 : decode cX0_tellsFrom 12 = .ok (.iconst 0, 1) := by decide +kernel
theorem dX0_tellsFrom_13 : decode cX0_tellsFrom 13 = .ok (.iload_n 2, 1) := by decide +kernel
theorem dX0_tellsFrom_14 : decode cX0_tellsFrom 14 = .ok (.invokevirtual 38, 3) := by decide +kernel
theorem dX0_tellsFrom_17 : decode cX0_tellsFrom 17 = .ok (.bipush 9, 2) := by decide +kernel
theorem dX0_tellsFrom_19 : decode cX0_tellsFrom 19 = .ok (.ixor, 1) := by decide +kernel
theorem dX0_tellsFrom_20 : decode cX0_tellsFrom 20 = .ok (.ireturn, 1) := by decide +kernel
theorem dX0_tellsFrom_21 : decode cX0_tellsFrom 21 = .ok (.aload_n 0, 1) := by decide +kernel
theorem dX0_tellsFrom_22 : decode cX0_tellsFrom 22 = .ok (.iconst 2, 1) := by decide +kernel
theorem dX0_tellsFrom_23 : decode cX0_tellsFrom 23 = .ok (.invokevirtual 41, 3) := by decide +kernel
theorem dX0_tellsFrom_26 : decode cX0_tellsFrom 26 = .ok (.aload_n 0, 1) := by decide +kernel
theorem dX0_tellsFrom_27 : decode cX0_tellsFrom 27 = .ok (.aload_n 0, 1) := by decide +kernel
theorem dX0_tellsFrom_28 : decode cX0_tellsFrom 28 = .ok (.getfield 19, 3) := by decide +kernel
theorem dX0_tellsFrom_31 : decode cX0_tellsFrom 31 = .ok (.iload_n 2, 1) := by decide +kernel
theorem dX0_tellsFrom_32 : decode cX0_tellsFrom 32 = .ok (.invokevirtual 32, 3) := by decide +kernel
theorem dX0_tellsFrom_35 : decode cX0_tellsFrom 35 = .ok (.istore_n 3, 1) := by decide +kernel
theorem dX0_tellsFrom_36 : decode cX0_tellsFrom 36 = .ok (.iload_n 3, 1) := by decide +kernel
theorem dX0_tellsFrom_37 : decode cX0_tellsFrom 37 = .ok (.aload_n 0, 1) := by decide +kernel
theorem dX0_tellsFrom_38 : decode cX0_tellsFrom 38 = .ok (.aload_n 0, 1) := by decide +kernel
theorem dX0_tellsFrom_39 : decode cX0_tellsFrom 39 = .ok (.getfield 19, 3) := by decide +kernel
theorem dX0_tellsFrom_42 : decode cX0_tellsFrom 42 = .ok (.iconst 1, 1) := by decide +kernel
theorem dX0_tellsFrom_43 : decode cX0_tellsFrom 43 = .ok (.invokevirtual 35, 3) := by decide +kernel
theorem dX0_tellsFrom_46 : decode cX0_tellsFrom 46 = .ok (.isub, 1) := by decide +kernel
theorem dX0_tellsFrom_47 : decode cX0_tellsFrom 47 = .ok (.ireturn, 1) := by decide +kernel
theorem dX1_pick_0 : decode cX1_pick 0 = .ok (.aload_n 0, 1) := by decide +kernel
theorem dX1_pick_1 : decode cX1_pick 1 = .ok (.iconst 0, 1) := by decide +kernel
theorem dX1_pick_2 : decode cX1_pick 2 = .ok (.putfield 18, 3) := by decide +kernel
theorem dX1_pick_5 : decode cX1_pick 5 = .ok (.aload_n 0, 1) := by decide +kernel
theorem dX1_pick_6 : decode cX1_pick 6 = .ok (.iconst 0, 1) := by decide +kernel
theorem dX1_pick_7 : decode cX1_pick 7 = .ok (.putfield 31, 3) := by decide +kernel
theorem dX1_pick_10 : decode cX1_pick 10 = .ok (.aload_n 1, 1) := by decide +kernel
theorem dX1_pick_11 : decode cX1_pick 11 = .ok (.getfield 41, 3) := by decide +kernel
theorem dX1_pick_14 : decode cX1_pick 14 = .ok (.iconst 1, 1) := by decide +kernel
theorem dX1_pick_15 : decode cX1_pick 15 = .ok (.if_icmp .ne 12, 3) := by decide +kernel
theorem dX1_pick_18 : decode cX1_pick 18 = .ok (.aload_n 0, 1) := by decide +kernel
theorem dX1_pick_19 : decode cX1_pick 19 = .ok (.aload_n 1, 1) := by decide +kernel
theorem dX1_pick_20 : decode cX1_pick 20 = .ok (.iload_n 2, 1) := by decide +kernel
theorem dX1_pick_21 : decode cX1_pick 21 = .ok (.invokevirtual 46, 3) := by decide +kernel
theorem dX1_pick_24 : decode cX1_pick 24 = .ok (.goto 26, 3) := by decide +kernel
theorem dX1_pick_27 : decode cX1_pick 27 = .ok (.aload_n 1, 1) := by decide +kernel
theorem dX1_pick_28 : decode cX1_pick 28 = .ok (.getfield 41, 3) := by decide +kernel
theorem dX1_pick_31 : decode cX1_pick 31 = .ok (.iconst 2, 1) := by decide +kernel
theorem dX1_pick_32 : decode cX1_pick 32 = .ok (.if_icmp .ne 12, 3) := by decide +kernel
theorem dX1_pick_35 : decode cX1_pick 35 = .ok (.aload_n 0, 1) := by decide +kernel
theorem dX1_pick_36 : decode cX1_pick 36 = .ok (.aload_n 1, 1) := by decide +kernel
theorem dX1_pick_37 : decode cX1_pick 37 = .ok (.iload_n 2, 1) := by decide +kernel
theorem dX1_pick_38 : decode cX1_pick 38 = .ok (.invokevirtual 50, 3) := by decide +kernel
theorem dX1_pick_41 : decode cX1_pick 41 = .ok (.goto 9, 3) := by decide +kernel
theorem dX1_pick_44 : decode cX1_pick 44 = .ok (.aload_n 0, 1) := by decide +kernel
theorem dX1_pick_45 : decode cX1_pick 45 = .ok (.aload_n 1, 1) := by decide +kernel
theorem dX1_pick_46 : decode cX1_pick 46 = .ok (.iload_n 2, 1) := by decide +kernel
theorem dX1_pick_47 : decode cX1_pick 47 = .ok (.invokevirtual 53, 3) := by decide +kernel
theorem dX1_pick_50 : decode cX1_pick 50 = .ok (.return_, 1) := by decide +kernel
theorem dX1_pickRound_0 : decode cX1_pickRound 0 = .ok (.iload_n 2, 1) := by decide +kernel
theorem dX1_pickRound_1 : decode cX1_pickRound 1 = .ok (.istore_n 3, 1) := by decide +kernel
theorem dX1_pickRound_2 : decode cX1_pickRound 2 = .ok (.iconst 0, 1) := by decide +kernel
theorem dX1_pickRound_3 : decode cX1_pickRound 3 = .ok (.istore 4, 2) := by decide +kernel
theorem dX1_pickRound_5 : decode cX1_pickRound 5 = .ok (.iload 4, 2) := by decide +kernel
theorem dX1_pickRound_7 : decode cX1_pickRound 7 = .ok (.aload_n 1, 1) := by decide +kernel
theorem dX1_pickRound_8 : decode cX1_pickRound 8 = .ok (.getfield 56, 3) := by decide +kernel
theorem dX1_pickRound_11 : decode cX1_pickRound 11 = .ok (.if_icmp .ge 55, 3) := by decide +kernel
theorem dX1_pickRound_14 : decode cX1_pickRound 14 = .ok (.aload_n 0, 1) := by decide +kernel
theorem dX1_pickRound_15 : decode cX1_pickRound 15 = .ok (.getfield 31, 3) := by decide +kernel
theorem dX1_pickRound_18 : decode cX1_pickRound 18 = .ok (.aload_n 1, 1) := by decide +kernel
theorem dX1_pickRound_19 : decode cX1_pickRound 19 = .ok (.getfield 59, 3) := by decide +kernel
theorem dX1_pickRound_22 : decode cX1_pickRound 22 = .ok (.if_icmp .eq 44, 3) := by decide +kernel
theorem dX1_pickRound_25 : decode cX1_pickRound 25 = .ok (.aload_n 1, 1) := by decide +kernel
theorem dX1_pickRound_26 : decode cX1_pickRound 26 = .ok (.getfield 62, 3) := by decide +kernel
theorem dX1_pickRound_29 : decode cX1_pickRound 29 = .ok (.iload_n 3, 1) := by decide +kernel
theorem dX1_pickRound_30 : decode cX1_pickRound 30 = .ok (.saload, 1) := by decide +kernel
theorem dX1_pickRound_31 : decode cX1_pickRound 31 = .ok (.istore_n 3, 1) := by decide +kernel
theorem dX1_pickRound_32 : decode cX1_pickRound 32 = .ok (.aload_n 0, 1) := by decide +kernel
theorem dX1_pickRound_33 : decode cX1_pickRound 33 = .ok (.aload_n 1, 1) := by decide +kernel
theorem dX1_pickRound_34 : decode cX1_pickRound 34 = .ok (.getfield 66, 3) := by decide +kernel
theorem dX1_pickRound_37 : decode cX1_pickRound 37 = .ok (.iload_n 3, 1) := by decide +kernel
theorem dX1_pickRound_38 : decode cX1_pickRound 38 = .ok (.baload, 1) := by decide +kernel
theorem dX1_pickRound_39 : decode cX1_pickRound 39 = .ok (.invokevirtual 70, 3) := by decide +kernel
theorem dX1_pickRound_42 : decode cX1_pickRound 42 = .ok (.ifCond .ne 13, 3) := by decide +kernel
theorem dX1_pickRound_45 : decode cX1_pickRound 45 = .ok (.aload_n 0, 1) := by decide +kernel
theorem dX1_pickRound_46 : decode cX1_pickRound 46 = .ok (.aload_n 1, 1) := by decide +kernel
theorem dX1_pickRound_47 : decode cX1_pickRound 47 = .ok (.getfield 66, 3) := by decide +kernel
theorem dX1_pickRound_50 : decode cX1_pickRound 50 = .ok (.iload_n 3, 1) := by decide +kernel
theorem dX1_pickRound_51 : decode cX1_pickRound 51 = .ok (.baload, 1) := by decide +kernel
theorem dX1_pickRound_52 : decode cX1_pickRound 52 = .ok (.invokevirtual 74, 3) := by decide +kernel
theorem dX1_pickRound_55 : decode cX1_pickRound 55 = .ok (.iload_n 3, 1) := by decide +kernel
theorem dX1_pickRound_56 : decode cX1_pickRound 56 = .ok (.invokestatic 78, 3) := by decide +kernel
theorem dX1_pickRound_59 : decode cX1_pickRound 59 = .ok (.istore_n 3, 1) := by decide +kernel
theorem dX1_pickRound_60 : decode cX1_pickRound 60 = .ok (.iinc 4 1, 3) := by decide +kernel
theorem dX1_pickRound_63 : decode cX1_pickRound 63 = .ok (.goto (-58), 3) := by decide +kernel
theorem dX1_pickRound_66 : decode cX1_pickRound 66 = .ok (.return_, 1) := by decide +kernel
theorem dX1_pickByJumps_0 : decode cX1_pickByJumps 0 = .ok (.iconst 0, 1) := by decide +kernel
theorem dX1_pickByJumps_1 : decode cX1_pickByJumps 1 = .ok (.istore_n 3, 1) := by decide +kernel
theorem dX1_pickByJumps_2 : decode cX1_pickByJumps 2 = .ok (.iload_n 3, 1) := by decide +kernel
theorem dX1_pickByJumps_3 : decode cX1_pickByJumps 3 = .ok (.bipush 12, 2) := by decide +kernel
theorem dX1_pickByJumps_5 : decode cX1_pickByJumps 5 = .ok (.if_icmp .ge 36, 3) := by decide +kernel
theorem dX1_pickByJumps_8 : decode cX1_pickByJumps 8 = .ok (.aload_n 0, 1) := by decide +kernel
theorem dX1_pickByJumps_9 : decode cX1_pickByJumps 9 = .ok (.getfield 31, 3) := by decide +kernel
theorem dX1_pickByJumps_12 : decode cX1_pickByJumps 12 = .ok (.aload_n 1, 1) := by decide +kernel
theorem dX1_pickByJumps_13 : decode cX1_pickByJumps 13 = .ok (.getfield 59, 3) := by decide +kernel
theorem dX1_pickByJumps_16 : decode cX1_pickByJumps 16 = .ok (.if_icmp .eq 25, 3) := by decide +kernel
theorem dX1_pickByJumps_19 : decode cX1_pickByJumps 19 = .ok (.aload_n 0, 1) := by decide +kernel
theorem dX1_pickByJumps_20 : decode cX1_pickByJumps 20 = .ok (.aload_n 1, 1) := by decide +kernel
theorem dX1_pickByJumps_21 : decode cX1_pickByJumps 21 = .ok (.iload_n 2, 1) := by decide +kernel
theorem dX1_pickByJumps_22 : decode cX1_pickByJumps 22 = .ok (.sipush 333, 3) := by decide +kernel
theorem dX1_pickByJumps_25 : decode cX1_pickByJumps 25 = .ok (.iload_n 3, 1) := by decide +kernel
theorem dX1_pickByJumps_26 : decode cX1_pickByJumps 26 = .ok (.imul, 1) := by decide +kernel
theorem dX1_pickByJumps_27 : decode cX1_pickByJumps 27 = .ok (.iadd, 1) := by decide +kernel
theorem dX1_pickByJumps_28 : decode cX1_pickByJumps 28 = .ok (.sipush 1000, 3) := by decide +kernel
theorem dX1_pickByJumps_31 : decode cX1_pickByJumps 31 = .ok (.irem, 1) := by decide +kernel
theorem dX1_pickByJumps_32 : decode cX1_pickByJumps 32 = .ok (.invokevirtual 82, 3) := by decide +kernel
theorem dX1_pickByJumps_35 : decode cX1_pickByJumps 35 = .ok (.iinc 3 1, 3) := by decide +kernel
theorem dX1_pickByJumps_38 : decode cX1_pickByJumps 38 = .ok (.goto (-36), 3) := by decide +kernel
theorem dX1_pickByJumps_41 : decode cX1_pickByJumps 41 = .ok (.return_, 1) := by decide +kernel
theorem dX1_pickFirstFrom_0 : decode cX1_pickFirstFrom 0 = .ok (.iload_n 2, 1) := by decide +kernel
theorem dX1_pickFirstFrom_1 : decode cX1_pickFirstFrom 1 = .ok (.istore_n 3, 1) := by decide +kernel
theorem dX1_pickFirstFrom_2 : decode cX1_pickFirstFrom 2 = .ok (.iconst 0, 1) := by decide +kernel
theorem dX1_pickFirstFrom_3 : decode cX1_pickFirstFrom 3 = .ok (.istore 4, 2) := by decide +kernel
theorem dX1_pickFirstFrom_5 : decode cX1_pickFirstFrom 5 = .ok (.iload 4, 2) := by decide +kernel
theorem dX1_pickFirstFrom_7 : decode cX1_pickFirstFrom 7 = .ok (.aload_n 1, 1) := by decide +kernel
theorem dX1_pickFirstFrom_8 : decode cX1_pickFirstFrom 8 = .ok (.getfield 56, 3) := by decide +kernel
theorem dX1_pickFirstFrom_11 : decode cX1_pickFirstFrom 11 = .ok (.if_icmp .ge 45, 3) := by decide +kernel
theorem dX1_pickFirstFrom_14 : decode cX1_pickFirstFrom 14 = .ok (.aload_n 1, 1) := by decide +kernel
theorem dX1_pickFirstFrom_15 : decode cX1_pickFirstFrom 15 = .ok (.getfield 62, 3) := by decide +kernel
theorem dX1_pickFirstFrom_18 : decode cX1_pickFirstFrom 18 = .ok (.iload_n 3, 1) := by decide +kernel
theorem dX1_pickFirstFrom_19 : decode cX1_pickFirstFrom 19 = .ok (.saload, 1) := by decide +kernel
theorem dX1_pickFirstFrom_20 : decode cX1_pickFirstFrom 20 = .ok (.istore_n 3, 1) := by decide +kernel
theorem dX1_pickFirstFrom_21 : decode cX1_pickFirstFrom 21 = .ok (.aload_n 0, 1) := by decide +kernel
theorem dX1_pickFirstFrom_22 : decode cX1_pickFirstFrom 22 = .ok (.aload_n 1, 1) := by decide +kernel
theorem dX1_pickFirstFrom_23 : decode cX1_pickFirstFrom 23 = .ok (.getfield 66, 3) := by decide +kernel
theorem dX1_pickFirstFrom_26 : decode cX1_pickFirstFrom 26 = .ok (.iload_n 3, 1) := by decide +kernel
theorem dX1_pickFirstFrom_27 : decode cX1_pickFirstFrom 27 = .ok (.baload, 1) := by decide +kernel
theorem dX1_pickFirstFrom_28 : decode cX1_pickFirstFrom 28 = .ok (.invokevirtual 70, 3) := by decide +kernel
theorem dX1_pickFirstFrom_31 : decode cX1_pickFirstFrom 31 = .ok (.ifCond .ne 14, 3) := by decide +kernel
theorem dX1_pickFirstFrom_34 : decode cX1_pickFirstFrom 34 = .ok (.aload_n 0, 1) := by decide +kernel
theorem dX1_pickFirstFrom_35 : decode cX1_pickFirstFrom 35 = .ok (.aload_n 1, 1) := by decide +kernel
theorem dX1_pickFirstFrom_36 : decode cX1_pickFirstFrom 36 = .ok (.getfield 66, 3) := by decide +kernel
theorem dX1_pickFirstFrom_39 : decode cX1_pickFirstFrom 39 = .ok (.iload_n 3, 1) := by decide +kernel
theorem dX1_pickFirstFrom_40 : decode cX1_pickFirstFrom 40 = .ok (.baload, 1) := by decide +kernel
theorem dX1_pickFirstFrom_41 : decode cX1_pickFirstFrom 41 = .ok (.invokevirtual 74, 3) := by decide +kernel
theorem dX1_pickFirstFrom_44 : decode cX1_pickFirstFrom 44 = .ok (.return_, 1) := by decide +kernel
theorem dX1_pickFirstFrom_45 : decode cX1_pickFirstFrom 45 = .ok (.iload_n 3, 1) := by decide +kernel
theorem dX1_pickFirstFrom_46 : decode cX1_pickFirstFrom 46 = .ok (.invokestatic 78, 3) := by decide +kernel
theorem dX1_pickFirstFrom_49 : decode cX1_pickFirstFrom 49 = .ok (.istore_n 3, 1) := by decide +kernel
theorem dX1_pickFirstFrom_50 : decode cX1_pickFirstFrom 50 = .ok (.iinc 4 1, 3) := by decide +kernel
theorem dX1_pickFirstFrom_53 : decode cX1_pickFirstFrom 53 = .ok (.goto (-48), 3) := by decide +kernel
theorem dX1_pickFirstFrom_56 : decode cX1_pickFirstFrom 56 = .ok (.return_, 1) := by decide +kernel
theorem dX1_pickBySums_0 : decode cX1_pickBySums 0 = .ok (.iconst 0, 1) := by decide +kernel
theorem dX1_pickBySums_1 : decode cX1_pickBySums 1 = .ok (.istore_n 3, 1) := by decide +kernel
theorem dX1_pickBySums_2 : decode cX1_pickBySums 2 = .ok (.iload_n 3, 1) := by decide +kernel
theorem dX1_pickBySums_3 : decode cX1_pickBySums 3 = .ok (.bipush 12, 2) := by decide +kernel
theorem dX1_pickBySums_5 : decode cX1_pickBySums 5 = .ok (.if_icmp .ge 133, 3) := by decide +kernel
theorem dX1_pickBySums_8 : decode cX1_pickBySums 8 = .ok (.aload_n 1, 1) := by decide +kernel
theorem dX1_pickBySums_9 : decode cX1_pickBySums 9 = .ok (.getfield 59, 3) := by decide +kernel
theorem dX1_pickBySums_12 : decode cX1_pickBySums 12 = .ok (.iload_n 3, 1) := by decide +kernel
theorem dX1_pickBySums_13 : decode cX1_pickBySums 13 = .ok (.ishr, 1) := by decide +kernel
theorem dX1_pickBySums_14 : decode cX1_pickBySums 14 = .ok (.iconst 1, 1) := by decide +kernel
theorem dX1_pickBySums_15 : decode cX1_pickBySums 15 = .ok (.iand, 1) := by decide +kernel
theorem dX1_pickBySums_16 : decode cX1_pickBySums 16 = .ok (.ifCond .ne 6, 3) := by decide +kernel
theorem dX1_pickBySums_19 : decode cX1_pickBySums 19 = .ok (.goto 113, 3) := by decide +kernel
theorem dX1_pickBySums_22 : decode cX1_pickBySums 22 = .ok (.aload_n 1, 1) := by decide +kernel
theorem dX1_pickBySums_23 : decode cX1_pickBySums 23 = .ok (.iload_n 3, 1) := by decide +kernel
theorem dX1_pickBySums_24 : decode cX1_pickBySums 24 = .ok (.iload_n 2, 1) := by decide +kernel
theorem dX1_pickBySums_25 : decode cX1_pickBySums 25 = .ok (.invokevirtual 85, 3) := by decide +kernel
theorem dX1_pickBySums_28 : decode cX1_pickBySums 28 = .ok (.istore 4, 2) := by decide +kernel
theorem dX1_pickBySums_30 : decode cX1_pickBySums 30 = .ok (.aload_n 0, 1) := by decide +kernel
theorem dX1_pickBySums_31 : decode cX1_pickBySums 31 = .ok (.getfield 18, 3) := by decide +kernel
theorem dX1_pickBySums_34 : decode cX1_pickBySums 34 = .ok (.istore 5, 2) := by decide +kernel
theorem dX1_pickBySums_36 : decode cX1_pickBySums 36 = .ok (.aload_n 0, 1) := by decide +kernel
theorem dX1_pickBySums_37 : decode cX1_pickBySums 37 = .ok (.getfield 18, 3) := by decide +kernel
theorem dX1_pickBySums_40 : decode cX1_pickBySums 40 = .ok (.istore 6, 2) := by decide +kernel
theorem dX1_pickBySums_42 : decode cX1_pickBySums 42 = .ok (.iload 6, 2) := by decide +kernel
theorem dX1_pickBySums_44 : decode cX1_pickBySums 44 = .ok (.ifCond .le 61, 3) := by decide +kernel
theorem dX1_pickBySums_47 : decode cX1_pickBySums 47 = .ok (.aload_n 0, 1) := by decide +kernel
theorem dX1_pickBySums_48 : decode cX1_pickBySums 48 = .ok (.getfield 34, 3) := by decide +kernel
theorem dX1_pickBySums_51 : decode cX1_pickBySums 51 = .ok (.iload 6, 2) := by decide +kernel
theorem dX1_pickBySums_53 : decode cX1_pickBySums 53 = .ok (.iconst 1, 1) := by decide +kernel
theorem dX1_pickBySums_54 : decode cX1_pickBySums 54 = .ok (.isub, 1) := by decide +kernel
theorem dX1_pickBySums_55 : decode cX1_pickBySums 55 = .ok (.iaload, 1) := by decide +kernel
theorem dX1_pickBySums_56 : decode cX1_pickBySums 56 = .ok (.iload 4, 2) := by decide +kernel
theorem dX1_pickBySums_58 : decode cX1_pickBySums 58 = .ok (.if_icmp .ge 47, 3) := by decide +kernel
theorem dX1_pickBySums_61 : decode cX1_pickBySums 61 = .ok (.aload_n 0, 1) := by decide +kernel
theorem dX1_pickBySums_62 : decode cX1_pickBySums 62 = .ok (.getfield 34, 3) := by decide +kernel
theorem dX1_pickBySums_65 : decode cX1_pickBySums 65 = .ok (.iload 6, 2) := by decide +kernel
theorem dX1_pickBySums_67 : decode cX1_pickBySums 67 = .ok (.aload_n 0, 1) := by decide +kernel
theorem dX1_pickBySums_68 : decode cX1_pickBySums 68 = .ok (.getfield 34, 3) := by decide +kernel
theorem dX1_pickBySums_71 : decode cX1_pickBySums 71 = .ok (.iload 6, 2) := by decide +kernel
theorem dX1_pickBySums_73 : decode cX1_pickBySums 73 = .ok (.iconst 1, 1) := by decide +kernel
theorem dX1_pickBySums_74 : decode cX1_pickBySums 74 = .ok (.isub, 1) := by decide +kernel
theorem dX1_pickBySums_75 : decode cX1_pickBySums 75 = .ok (.iaload, 1) := by decide +kernel
theorem dX1_pickBySums_76 : decode cX1_pickBySums 76 = .ok (.iastore, 1) := by decide +kernel
theorem dX1_pickBySums_77 : decode cX1_pickBySums 77 = .ok (.aload_n 0, 1) := by decide +kernel
theorem dX1_pickBySums_78 : decode cX1_pickBySums 78 = .ok (.getfield 9, 3) := by decide +kernel
theorem dX1_pickBySums_81 : decode cX1_pickBySums 81 = .ok (.iload 6, 2) := by decide +kernel
theorem dX1_pickBySums_83 : decode cX1_pickBySums 83 = .ok (.aload_n 0, 1) := by decide +kernel
theorem dX1_pickBySums_84 : decode cX1_pickBySums 84 = .ok (.getfield 9, 3) := by decide +kernel
theorem dX1_pickBySums_87 : decode cX1_pickBySums 87 = .ok (.iload 6, 2) := by decide +kernel
theorem dX1_pickBySums_89 : decode cX1_pickBySums 89 = .ok (.iconst 1, 1) := by decide +kernel
theorem dX1_pickBySums_90 : decode cX1_pickBySums 90 = .ok (.isub, 1) := by decide +kernel
theorem dX1_pickBySums_91 : decode cX1_pickBySums 91 = .ok (.iaload, 1) := by decide +kernel
theorem dX1_pickBySums_92 : decode cX1_pickBySums 92 = .ok (.iastore, 1) := by decide +kernel
theorem dX1_pickBySums_93 : decode cX1_pickBySums 93 = .ok (.iload 6, 2) := by decide +kernel
theorem dX1_pickBySums_95 : decode cX1_pickBySums 95 = .ok (.iconst 1, 1) := by decide +kernel
theorem dX1_pickBySums_96 : decode cX1_pickBySums 96 = .ok (.isub, 1) := by decide +kernel
theorem dX1_pickBySums_97 : decode cX1_pickBySums 97 = .ok (.istore 5, 2) := by decide +kernel
theorem dX1_pickBySums_99 : decode cX1_pickBySums 99 = .ok (.iinc 6 (-1), 3) := by decide +kernel
theorem dX1_pickBySums_102 : decode cX1_pickBySums 102 = .ok (.goto (-60), 3) := by decide +kernel
theorem dX1_pickBySums_105 : decode cX1_pickBySums 105 = .ok (.aload_n 0, 1) := by decide +kernel
theorem dX1_pickBySums_106 : decode cX1_pickBySums 106 = .ok (.getfield 34, 3) := by decide +kernel
theorem dX1_pickBySums_109 : decode cX1_pickBySums 109 = .ok (.iload 5, 2) := by decide +kernel
theorem dX1_pickBySums_111 : decode cX1_pickBySums 111 = .ok (.iload 4, 2) := by decide +kernel
theorem dX1_pickBySums_113 : decode cX1_pickBySums 113 = .ok (.iastore, 1) := by decide +kernel
theorem dX1_pickBySums_114 : decode cX1_pickBySums 114 = .ok (.aload_n 0, 1) := by decide +kernel
theorem dX1_pickBySums_115 : decode cX1_pickBySums 115 = .ok (.getfield 9, 3) := by decide +kernel
theorem dX1_pickBySums_118 : decode cX1_pickBySums 118 = .ok (.iload 5, 2) := by decide +kernel
theorem dX1_pickBySums_120 : decode cX1_pickBySums 120 = .ok (.iload_n 3, 1) := by decide +kernel
theorem dX1_pickBySums_121 : decode cX1_pickBySums 121 = .ok (.iastore, 1) := by decide +kernel
theorem dX1_pickBySums_122 : decode cX1_pickBySums 122 = .ok (.aload_n 0, 1) := by decide +kernel
theorem dX1_pickBySums_123 : decode cX1_pickBySums 123 = .ok (.dup, 1) := by decide +kernel
theorem dX1_pickBySums_124 : decode cX1_pickBySums 124 = .ok (.getfield 18, 3) := by decide +kernel
theorem dX1_pickBySums_127 : decode cX1_pickBySums 127 = .ok (.iconst 1, 1) := by decide +kernel
theorem dX1_pickBySums_128 : decode cX1_pickBySums 128 = .ok (.iadd, 1) := by decide +kernel
theorem dX1_pickBySums_129 : decode cX1_pickBySums 129 = .ok (.putfield 18, 3) := by decide +kernel
theorem dX1_pickBySums_132 : decode cX1_pickBySums 132 = .ok (.iinc 3 1, 3) := by decide +kernel
theorem dX1_pickBySums_135 : decode cX1_pickBySums 135 = .ok (.goto (-133), 3) := by decide +kernel
theorem dX1_pickBySums_138 : decode cX1_pickBySums 138 = .ok (.aload_n 0, 1) := by decide +kernel
theorem dX1_pickBySums_139 : decode cX1_pickBySums 139 = .ok (.aload_n 1, 1) := by decide +kernel
theorem dX1_pickBySums_140 : decode cX1_pickBySums 140 = .ok (.getfield 59, 3) := by decide +kernel
theorem dX1_pickBySums_143 : decode cX1_pickBySums 143 = .ok (.putfield 31, 3) := by decide +kernel
theorem dX1_pickBySums_146 : decode cX1_pickBySums 146 = .ok (.return_, 1) := by decide +kernel
theorem dX1_isPicked_0 : decode cX1_isPicked 0 = .ok (.aload_n 0, 1) := by decide +kernel
theorem dX1_isPicked_1 : decode cX1_isPicked 1 = .ok (.getfield 31, 3) := by decide +kernel
theorem dX1_isPicked_4 : decode cX1_isPicked 4 = .ok (.iload_n 1, 1) := by decide +kernel
theorem dX1_isPicked_5 : decode cX1_isPicked 5 = .ok (.ishr, 1) := by decide +kernel
theorem dX1_isPicked_6 : decode cX1_isPicked 6 = .ok (.iconst 1, 1) := by decide +kernel
theorem dX1_isPicked_7 : decode cX1_isPicked 7 = .ok (.iand, 1) := by decide +kernel
theorem dX1_isPicked_8 : decode cX1_isPicked 8 = .ok (.iconst 1, 1) := by decide +kernel
theorem dX1_isPicked_9 : decode cX1_isPicked 9 = .ok (.if_icmp .ne 7, 3) := by decide +kernel
theorem dX1_isPicked_12 : decode cX1_isPicked 12 = .ok (.iconst 1, 1) := by decide +kernel
theorem dX1_isPicked_13 : decode cX1_isPicked 13 = .ok (.goto 4, 3) := by decide +kernel
theorem dX1_isPicked_16 : decode cX1_isPicked 16 = .ok (.iconst 0, 1) := by decide +kernel
theorem dX1_isPicked_17 : decode cX1_isPicked 17 = .ok (.ireturn, 1) := by decide +kernel
theorem dX1_takePick_0 : decode cX1_takePick 0 = .ok (.aload_n 0, 1) := by decide +kernel
theorem dX1_takePick_1 : decode cX1_takePick 1 = .ok (.getfield 18, 3) := by decide +kernel
theorem dX1_takePick_4 : decode cX1_takePick 4 = .ok (.bipush 12, 2) := by decide +kernel
theorem dX1_takePick_6 : decode cX1_takePick 6 = .ok (.if_icmp .lt 4, 3) := by decide +kernel
theorem dX1_takePick_9 : decode cX1_takePick 9 = .ok (.return_, 1) := by decide +kernel
theorem dX1_takePick_10 : decode cX1_takePick 10 = .ok (.aload_n 0, 1) := by decide +kernel
theorem dX1_takePick_11 : decode cX1_takePick 11 = .ok (.getfield 9, 3) := by decide +kernel
theorem dX1_takePick_14 : decode cX1_takePick 14 = .ok (.aload_n 0, 1) := by decide +kernel
theorem dX1_takePick_15 : decode cX1_takePick 15 = .ok (.getfield 18, 3) := by decide +kernel
theorem dX1_takePick_18 : decode cX1_takePick 18 = .ok (.iload_n 1, 1) := by decide +kernel
theorem dX1_takePick_19 : decode cX1_takePick 19 = .ok (.iastore, 1) := by decide +kernel
theorem dX1_takePick_20 : decode cX1_takePick 20 = .ok (.aload_n 0, 1) := by decide +kernel
theorem dX1_takePick_21 : decode cX1_takePick 21 = .ok (.dup, 1) := by decide +kernel
theorem dX1_takePick_22 : decode cX1_takePick 22 = .ok (.getfield 18, 3) := by decide +kernel
theorem dX1_takePick_25 : decode cX1_takePick 25 = .ok (.iconst 1, 1) := by decide +kernel
theorem dX1_takePick_26 : decode cX1_takePick 26 = .ok (.iadd, 1) := by decide +kernel
theorem dX1_takePick_27 : decode cX1_takePick 27 = .ok (.putfield 18, 3) := by decide +kernel
theorem dX1_takePick_30 : decode cX1_takePick 30 = .ok (.aload_n 0, 1) := by decide +kernel
theorem dX1_takePick_31 : decode cX1_takePick 31 = .ok (.dup, 1) := by decide +kernel
theorem dX1_takePick_32 : decode cX1_takePick 32 = .ok (.getfield 31, 3) := by decide +kernel
theorem dX1_takePick_35 : decode cX1_takePick 35 = .ok (.iconst 1, 1) := by decide +kernel
theorem dX1_takePick_36 : decode cX1_takePick 36 = .ok (.iload_n 1, 1) := by decide +kernel
theorem dX1_takePick_37 : decode cX1_takePick 37 = .ok (.ishl, 1) := by decide +kernel
theorem dX1_takePick_38 : decode cX1_takePick 38 = .ok (.ior, 1) := by decide +kernel
theorem dX1_takePick_39 : decode cX1_takePick 39 = .ok (.putfield 31, 3) := by decide +kernel
theorem dX1_takePick_42 : decode cX1_takePick 42 = .ok (.return_, 1) := by decide +kernel
theorem dX1_choose_0 : decode cX1_choose 0 = .ok (.aload_n 0, 1) := by decide +kernel
theorem dX1_choose_1 : decode cX1_choose 1 = .ok (.aload_n 1, 1) := by decide +kernel
theorem dX1_choose_2 : decode cX1_choose 2 = .ok (.iload_n 2, 1) := by decide +kernel
theorem dX1_choose_3 : decode cX1_choose 3 = .ok (.invokevirtual 89, 3) := by decide +kernel
theorem dX1_choose_6 : decode cX1_choose 6 = .ok (.aload_n 0, 1) := by decide +kernel
theorem dX1_choose_7 : decode cX1_choose 7 = .ok (.iconst 0, 1) := by decide +kernel
theorem dX1_choose_8 : decode cX1_choose 8 = .ok (.putfield 22, 3) := by decide +kernel
theorem dX1_choose_11 : decode cX1_choose 11 = .ok (.aload_n 0, 1) := by decide +kernel
theorem dX1_choose_12 : decode cX1_choose 12 = .ok (.iconst 0, 1) := by decide +kernel
theorem dX1_choose_13 : decode cX1_choose 13 = .ok (.putfield 25, 3) := by decide +kernel
theorem dX1_choose_16 : decode cX1_choose 16 = .ok (.aload_n 0, 1) := by decide +kernel
theorem dX1_choose_17 : decode cX1_choose 17 = .ok (.iconst 0, 1) := by decide +kernel
theorem dX1_choose_18 : decode cX1_choose 18 = .ok (.putfield 28, 3) := by decide +kernel
theorem dX1_choose_21 : decode cX1_choose 21 = .ok (.iconst 0, 1) := by decide +kernel
theorem dX1_choose_22 : decode cX1_choose 22 = .ok (.istore_n 3, 1) := by decide +kernel
theorem dX1_choose_23 : decode cX1_choose 23 = .ok (.iload_n 3, 1) := by decide +kernel
theorem dX1_choose_24 : decode cX1_choose 24 = .ok (.aload_n 0, 1) := by decide +kernel
theorem dX1_choose_25 : decode cX1_choose 25 = .ok (.getfield 18, 3) := by decide +kernel
theorem dX1_choose_28 : decode cX1_choose 28 = .ok (.if_icmp .ge 61, 3) := by decide +kernel
theorem dX1_choose_31 : decode cX1_choose 31 = .ok (.aload_n 0, 1) := by decide +kernel
theorem dX1_choose_32 : decode cX1_choose 32 = .ok (.getfield 22, 3) := by decide +kernel
theorem dX1_choose_35 : decode cX1_choose 35 = .ok (.aload_n 1, 1) := by decide +kernel
theorem dX1_choose_36 : decode cX1_choose 36 = .ok (.getfield 92, 3) := by decide +kernel
theorem dX1_choose_39 : decode cX1_choose 39 = .ok (.aload_n 1, 1) := by decide +kernel
theorem dX1_choose_40 : decode cX1_choose 40 = .ok (.getfield 95, 3) := by decide +kernel
theorem dX1_choose_43 : decode cX1_choose 43 = .ok (.invokestatic 98, 3) := by decide +kernel
theorem dX1_choose_46 : decode cX1_choose 46 = .ok (.if_icmp .ge 43, 3) := by decide +kernel
theorem dX1_choose_49 : decode cX1_choose 49 = .ok (.aload_n 0, 1) := by decide +kernel
theorem dX1_choose_50 : decode cX1_choose 50 = .ok (.getfield 28, 3) := by decide +kernel
theorem dX1_choose_53 : decode cX1_choose 53 = .ok (.aload_n 0, 1) := by decide +kernel
theorem dX1_choose_54 : decode cX1_choose 54 = .ok (.getfield 37, 3) := by decide +kernel
theorem dX1_choose_57 : decode cX1_choose 57 = .ok (.getfield 103, 3) := by decide +kernel
theorem dX1_choose_60 : decode cX1_choose 60 = .ok (.aload_n 0, 1) := by decide +kernel
theorem dX1_choose_61 : decode cX1_choose 61 = .ok (.getfield 9, 3) := by decide +kernel
theorem dX1_choose_64 : decode cX1_choose 64 = .ok (.iload_n 3, 1) := by decide +kernel
theorem dX1_choose_65 : decode cX1_choose 65 = .ok (.iaload, 1) := by decide +kernel
theorem dX1_choose_66 : decode cX1_choose 66 = .ok (.iaload, 1) := by decide +kernel
theorem dX1_choose_67 : decode cX1_choose 67 = .ok (.ishr, 1) := by decide +kernel
theorem dX1_choose_68 : decode cX1_choose 68 = .ok (.iconst 1, 1) := by decide +kernel
theorem dX1_choose_69 : decode cX1_choose 69 = .ok (.iand, 1) := by decide +kernel
theorem dX1_choose_70 : decode cX1_choose 70 = .ok (.ifCond .ne 13, 3) := by decide +kernel
theorem dX1_choose_73 : decode cX1_choose 73 = .ok (.aload_n 0, 1) := by decide +kernel
theorem dX1_choose_74 : decode cX1_choose 74 = .ok (.aload_n 0, 1) := by decide +kernel
theorem dX1_choose_75 : decode cX1_choose 75 = .ok (.getfield 9, 3) := by decide +kernel
theorem dX1_choose_78 : decode cX1_choose 78 = .ok (.iload_n 3, 1) := by decide +kernel
theorem dX1_choose_79 : decode cX1_choose 79 = .ok (.iaload, 1) := by decide +kernel
theorem dX1_choose_80 : decode cX1_choose 80 = .ok (.invokevirtual 108, 3) := by decide +kernel
theorem dX1_choose_83 : decode cX1_choose 83 = .ok (.iinc 3 1, 3) := by decide +kernel
theorem dX1_choose_86 : decode cX1_choose 86 = .ok (.goto (-63), 3) := by decide +kernel
theorem dX1_choose_89 : decode cX1_choose 89 = .ok (.iconst 0, 1) := by decide +kernel
theorem dX1_choose_90 : decode cX1_choose 90 = .ok (.istore_n 3, 1) := by decide +kernel
theorem dX1_choose_91 : decode cX1_choose 91 = .ok (.iload_n 3, 1) := by decide +kernel
theorem dX1_choose_92 : decode cX1_choose 92 = .ok (.aload_n 0, 1) := by decide +kernel
theorem dX1_choose_93 : decode cX1_choose 93 = .ok (.getfield 18, 3) := by decide +kernel
theorem dX1_choose_96 : decode cX1_choose 96 = .ok (.if_icmp .ge 43, 3) := by decide +kernel
theorem dX1_choose_99 : decode cX1_choose 99 = .ok (.aload_n 0, 1) := by decide +kernel
theorem dX1_choose_100 : decode cX1_choose 100 = .ok (.getfield 22, 3) := by decide +kernel
theorem dX1_choose_103 : decode cX1_choose 103 = .ok (.aload_n 1, 1) := by decide +kernel
theorem dX1_choose_104 : decode cX1_choose 104 = .ok (.getfield 92, 3) := by decide +kernel
theorem dX1_choose_107 : decode cX1_choose 107 = .ok (.if_icmp .ge 32, 3) := by decide +kernel
theorem dX1_choose_110 : decode cX1_choose 110 = .ok (.aload_n 0, 1) := by decide +kernel
theorem dX1_choose_111 : decode cX1_choose 111 = .ok (.aload_n 0, 1) := by decide +kernel
theorem dX1_choose_112 : decode cX1_choose 112 = .ok (.getfield 9, 3) := by decide +kernel
theorem dX1_choose_115 : decode cX1_choose 115 = .ok (.iload_n 3, 1) := by decide +kernel
theorem dX1_choose_116 : decode cX1_choose 116 = .ok (.iaload, 1) := by decide +kernel
theorem dX1_choose_117 : decode cX1_choose 117 = .ok (.invokevirtual 111, 3) := by decide +kernel
theorem dX1_choose_120 : decode cX1_choose 120 = .ok (.ifCond .ne 13, 3) := by decide +kernel
theorem dX1_choose_123 : decode cX1_choose 123 = .ok (.aload_n 0, 1) := by decide +kernel
theorem dX1_choose_124 : decode cX1_choose 124 = .ok (.aload_n 0, 1) := by decide +kernel
theorem dX1_choose_125 : decode cX1_choose 125 = .ok (.getfield 9, 3) := by decide +kernel
theorem dX1_choose_128 : decode cX1_choose 128 = .ok (.iload_n 3, 1) := by decide +kernel
theorem dX1_choose_129 : decode cX1_choose 129 = .ok (.iaload, 1) := by decide +kernel
theorem dX1_choose_130 : decode cX1_choose 130 = .ok (.invokevirtual 108, 3) := by decide +kernel
theorem dX1_choose_133 : decode cX1_choose 133 = .ok (.iinc 3 1, 3) := by decide +kernel
theorem dX1_choose_136 : decode cX1_choose 136 = .ok (.goto (-45), 3) := by decide +kernel
theorem dX1_choose_139 : decode cX1_choose 139 = .ok (.return_, 1) := by decide +kernel
theorem dX1_isChosen_0 : decode cX1_isChosen 0 = .ok (.aload_n 0, 1) := by decide +kernel
theorem dX1_isChosen_1 : decode cX1_isChosen 1 = .ok (.getfield 25, 3) := by decide +kernel
theorem dX1_isChosen_4 : decode cX1_isChosen 4 = .ok (.iload_n 1, 1) := by decide +kernel
theorem dX1_isChosen_5 : decode cX1_isChosen 5 = .ok (.ishr, 1) := by decide +kernel
theorem dX1_isChosen_6 : decode cX1_isChosen 6 = .ok (.iconst 1, 1) := by decide +kernel
theorem dX1_isChosen_7 : decode cX1_isChosen 7 = .ok (.iand, 1) := by decide +kernel
theorem dX1_isChosen_8 : decode cX1_isChosen 8 = .ok (.iconst 1, 1) := by decide +kernel
theorem dX1_isChosen_9 : decode cX1_isChosen 9 = .ok (.if_icmp .ne 7, 3) := by decide +kernel
theorem dX1_isChosen_12 : decode cX1_isChosen 12 = .ok (.iconst 1, 1) := by decide +kernel
theorem dX1_isChosen_13 : decode cX1_isChosen 13 = .ok (.goto 4, 3) := by decide +kernel
theorem dX1_isChosen_16 : decode cX1_isChosen 16 = .ok (.iconst 0, 1) := by decide +kernel
theorem dX1_isChosen_17 : decode cX1_isChosen 17 = .ok (.ireturn, 1) := by decide +kernel
theorem dX1_takeChosen_0 : decode cX1_takeChosen 0 = .ok (.aload_n 0, 1) := by decide +kernel
theorem dX1_takeChosen_1 : decode cX1_takeChosen 1 = .ok (.getfield 15, 3) := by decide +kernel
theorem dX1_takeChosen_4 : decode cX1_takeChosen 4 = .ok (.aload_n 0, 1) := by decide +kernel
theorem dX1_takeChosen_5 : decode cX1_takeChosen 5 = .ok (.getfield 22, 3) := by decide +kernel
theorem dX1_takeChosen_8 : decode cX1_takeChosen 8 = .ok (.iload_n 1, 1) := by decide +kernel
theorem dX1_takeChosen_9 : decode cX1_takeChosen 9 = .ok (.iastore, 1) := by decide +kernel
theorem dX1_takeChosen_10 : decode cX1_takeChosen 10 = .ok (.aload_n 0, 1) := by decide +kernel
theorem dX1_takeChosen_11 : decode cX1_takeChosen 11 = .ok (.dup, 1) := by decide +kernel
theorem dX1_takeChosen_12 : decode cX1_takeChosen 12 = .ok (.getfield 22, 3) := by decide +kernel
theorem dX1_takeChosen_15 : decode cX1_takeChosen 15 = .ok (.iconst 1, 1) := by decide +kernel
theorem dX1_takeChosen_16 : decode cX1_takeChosen 16 = .ok (.iadd, 1) := by decide +kernel
theorem dX1_takeChosen_17 : decode cX1_takeChosen 17 = .ok (.putfield 22, 3) := by decide +kernel
theorem dX1_takeChosen_20 : decode cX1_takeChosen 20 = .ok (.aload_n 0, 1) := by decide +kernel
theorem dX1_takeChosen_21 : decode cX1_takeChosen 21 = .ok (.dup, 1) := by decide +kernel
theorem dX1_takeChosen_22 : decode cX1_takeChosen 22 = .ok (.getfield 25, 3) := by decide +kernel
theorem dX1_takeChosen_25 : decode cX1_takeChosen 25 = .ok (.iconst 1, 1) := by decide +kernel
theorem dX1_takeChosen_26 : decode cX1_takeChosen 26 = .ok (.iload_n 1, 1) := by decide +kernel
theorem dX1_takeChosen_27 : decode cX1_takeChosen 27 = .ok (.ishl, 1) := by decide +kernel
theorem dX1_takeChosen_28 : decode cX1_takeChosen 28 = .ok (.ior, 1) := by decide +kernel
theorem dX1_takeChosen_29 : decode cX1_takeChosen 29 = .ok (.putfield 25, 3) := by decide +kernel
theorem dX1_takeChosen_32 : decode cX1_takeChosen 32 = .ok (.aload_n 0, 1) := by decide +kernel
theorem dX1_takeChosen_33 : decode cX1_takeChosen 33 = .ok (.dup, 1) := by decide +kernel
theorem dX1_takeChosen_34 : decode cX1_takeChosen 34 = .ok (.getfield 28, 3) := by decide +kernel
theorem dX1_takeChosen_37 : decode cX1_takeChosen 37 = .ok (.iconst 1, 1) := by decide +kernel
theorem dX1_takeChosen_38 : decode cX1_takeChosen 38 = .ok (.aload_n 0, 1) := by decide +kernel
theorem dX1_takeChosen_39 : decode cX1_takeChosen 39 = .ok (.getfield 37, 3) := by decide +kernel
theorem dX1_takeChosen_42 : decode cX1_takeChosen 42 = .ok (.getfield 103, 3) := by decide +kernel
theorem dX1_takeChosen_45 : decode cX1_takeChosen 45 = .ok (.iload_n 1, 1) := by decide +kernel
theorem dX1_takeChosen_46 : decode cX1_takeChosen 46 = .ok (.iaload, 1) := by decide +kernel
theorem dX1_takeChosen_47 : decode cX1_takeChosen 47 = .ok (.ishl, 1) := by decide +kernel
theorem dX1_takeChosen_48 : decode cX1_takeChosen 48 = .ok (.ior, 1) := by decide +kernel
theorem dX1_takeChosen_49 : decode cX1_takeChosen 49 = .ok (.putfield 28, 3) := by decide +kernel
theorem dX1_takeChosen_52 : decode cX1_takeChosen 52 = .ok (.return_, 1) := by decide +kernel
theorem dX2_has_12 : decode cX2_has 12 = .ok (.iconst 1, 1) := by decide +kernel
theorem dX2_has_13 : decode cX2_has 13 = .ok (.goto 4, 3) := by decide +kernel
theorem dX2_counting_0 : decode cX2_counting 0 = .ok (.aload_n 0, 1) := by decide +kernel
theorem dX2_counting_1 : decode cX2_counting 1 = .ok (.getfield 9, 3) := by decide +kernel
theorem dX2_counting_4 : decode cX2_counting 4 = .ok (.iload_n 1, 1) := by decide +kernel
theorem dX2_counting_5 : decode cX2_counting 5 = .ok (.iaload, 1) := by decide +kernel
theorem dX2_counting_6 : decode cX2_counting 6 = .ok (.iconst 1, 1) := by decide +kernel
theorem dX2_counting_7 : decode cX2_counting 7 = .ok (.if_icmp .eq 14, 3) := by decide +kernel
theorem dX2_counting_10 : decode cX2_counting 10 = .ok (.aload_n 0, 1) := by decide +kernel
theorem dX2_counting_11 : decode cX2_counting 11 = .ok (.getfield 9, 3) := by decide +kernel
theorem dX2_counting_14 : decode cX2_counting 14 = .ok (.iload_n 1, 1) := by decide +kernel
theorem dX2_counting_15 : decode cX2_counting 15 = .ok (.iaload, 1) := by decide +kernel
theorem dX2_counting_16 : decode cX2_counting 16 = .ok (.bipush 6, 2) := by decide +kernel
theorem dX2_counting_18 : decode cX2_counting 18 = .ok (.if_icmp .ne 7, 3) := by decide +kernel
theorem dX2_counting_21 : decode cX2_counting 21 = .ok (.iconst 1, 1) := by decide +kernel
theorem dX2_counting_22 : decode cX2_counting 22 = .ok (.goto 4, 3) := by decide +kernel
theorem dX2_counting_25 : decode cX2_counting 25 = .ok (.iconst 0, 1) := by decide +kernel
theorem dX2_counting_26 : decode cX2_counting 26 = .ok (.istore_n 2, 1) := by decide +kernel
theorem dX2_counting_27 : decode cX2_counting 27 = .ok (.iload_n 2, 1) := by decide +kernel
theorem dX2_counting_28 : decode cX2_counting 28 = .ok (.ifCond .eq 14, 3) := by decide +kernel
theorem dX2_counting_31 : decode cX2_counting 31 = .ok (.iconst 2, 1) := by decide +kernel
theorem dX2_counting_32 : decode cX2_counting 32 = .ok (.aload_n 0, 1) := by decide +kernel
theorem dX2_counting_33 : decode cX2_counting 33 = .ok (.getfield 18, 3) := by decide +kernel
theorem dX2_counting_36 : decode cX2_counting 36 = .ok (.iload_n 1, 1) := by decide +kernel
theorem dX2_counting_37 : decode cX2_counting 37 = .ok (.iaload, 1) := by decide +kernel
theorem dX2_counting_38 : decode cX2_counting 38 = .ok (.imul, 1) := by decide +kernel
theorem dX2_counting_39 : decode cX2_counting 39 = .ok (.goto 9, 3) := by decide +kernel
theorem dX2_counting_42 : decode cX2_counting 42 = .ok (.aload_n 0, 1) := by decide +kernel
theorem dX2_counting_43 : decode cX2_counting 43 = .ok (.getfield 18, 3) := by decide +kernel
theorem dX2_counting_46 : decode cX2_counting 46 = .ok (.iload_n 1, 1) := by decide +kernel
theorem dX2_counting_47 : decode cX2_counting 47 = .ok (.iaload, 1) := by decide +kernel
theorem dX2_counting_48 : decode cX2_counting 48 = .ok (.ireturn, 1) := by decide +kernel
theorem dX2_isUp_0 : decode cX2_isUp 0 = .ok (.aload_n 0, 1) := by decide +kernel
theorem dX2_isUp_1 : decode cX2_isUp 1 = .ok (.getfield 24, 3) := by decide +kernel
theorem dX2_isUp_4 : decode cX2_isUp 4 = .ok (.iload_n 1, 1) := by decide +kernel
theorem dX2_isUp_5 : decode cX2_isUp 5 = .ok (.baload, 1) := by decide +kernel
theorem dX2_isUp_6 : decode cX2_isUp 6 = .ok (.ifCond .ne 17, 3) := by decide +kernel
theorem dX2_isUp_9 : decode cX2_isUp 9 = .ok (.aload_n 0, 1) := by decide +kernel
theorem dX2_isUp_10 : decode cX2_isUp 10 = .ok (.getfield 9, 3) := by decide +kernel
theorem dX2_isUp_13 : decode cX2_isUp 13 = .ok (.iload_n 1, 1) := by decide +kernel
theorem dX2_isUp_14 : decode cX2_isUp 14 = .ok (.iaload, 1) := by decide +kernel
theorem dX2_isUp_15 : decode cX2_isUp 15 = .ok (.iconst 4, 1) := by decide +kernel
theorem dX2_isUp_16 : decode cX2_isUp 16 = .ok (.if_icmp .eq 7, 3) := by decide +kernel
theorem dX2_isUp_19 : decode cX2_isUp 19 = .ok (.iconst 1, 1) := by decide +kernel
theorem dX2_isUp_20 : decode cX2_isUp 20 = .ok (.goto 4, 3) := by decide +kernel
theorem dX2_isUp_23 : decode cX2_isUp 23 = .ok (.iconst 0, 1) := by decide +kernel
theorem dX2_isUp_24 : decode cX2_isUp 24 = .ok (.ireturn, 1) := by decide +kernel
theorem dX3_workOut_0 : decode cX3_workOut 0 = .ok (.aload_n 0, 1) := by decide +kernel
theorem dX3_workOut_1 : decode cX3_workOut 1 = .ok (.aload_n 1, 1) := by decide +kernel
theorem dX3_workOut_2 : decode cX3_workOut 2 = .ok (.getfield 37, 3) := by decide +kernel
theorem dX3_workOut_5 : decode cX3_workOut 5 = .ok (.putfield 9, 3) := by decide +kernel
theorem dX3_workOut_8 : decode cX3_workOut 8 = .ok (.aload_n 0, 1) := by decide +kernel
theorem dX3_workOut_9 : decode cX3_workOut 9 = .ok (.aload_n 1, 1) := by decide +kernel
theorem dX3_workOut_10 : decode cX3_workOut 10 = .ok (.getfield 42, 3) := by decide +kernel
theorem dX3_workOut_13 : decode cX3_workOut 13 = .ok (.putfield 15, 3) := by decide +kernel
theorem dX3_workOut_16 : decode cX3_workOut 16 = .ok (.aload_n 0, 1) := by decide +kernel
theorem dX3_workOut_17 : decode cX3_workOut 17 = .ok (.iconst 0, 1) := by decide +kernel
theorem dX3_workOut_18 : decode cX3_workOut 18 = .ok (.putfield 19, 3) := by decide +kernel
theorem dX3_workOut_21 : decode cX3_workOut 21 = .ok (.aload_n 0, 1) := by decide +kernel
theorem dX3_workOut_22 : decode cX3_workOut 22 = .ok (.iconst (-1), 1) := by decide +kernel
theorem dX3_workOut_23 : decode cX3_workOut 23 = .ok (.putfield 22, 3) := by decide +kernel
theorem dX3_workOut_26 : decode cX3_workOut 26 = .ok (.aload_n 0, 1) := by decide +kernel
theorem dX3_workOut_27 : decode cX3_workOut 27 = .ok (.aload_n 1, 1) := by decide +kernel
theorem dX3_workOut_28 : decode cX3_workOut 28 = .ok (.aload_n 2, 1) := by decide +kernel
theorem dX3_workOut_29 : decode cX3_workOut 29 = .ok (.invokevirtual 45, 3) := by decide +kernel
theorem dX3_workOut_32 : decode cX3_workOut 32 = .ok (.aload_n 1, 1) := by decide +kernel
theorem dX3_workOut_33 : decode cX3_workOut 33 = .ok (.iconst 2, 1) := by decide +kernel
theorem dX3_workOut_34 : decode cX3_workOut 34 = .ok (.putfield 49, 3) := by decide +kernel
theorem dX3_workOut_37 : decode cX3_workOut 37 = .ok (.aload_n 1, 1) := by decide +kernel
theorem dX3_workOut_38 : decode cX3_workOut 38 = .ok (.iconst 1, 1) := by decide +kernel
theorem dX3_workOut_39 : decode cX3_workOut 39 = .ok (.putfield 52, 3) := by decide +kernel
theorem dX3_workOut_42 : decode cX3_workOut 42 = .ok (.aload_n 1, 1) := by decide +kernel
theorem dX3_workOut_43 : decode cX3_workOut 43 = .ok (.iconst 0, 1) := by decide +kernel
theorem dX3_workOut_44 : decode cX3_workOut 44 = .ok (.putfield 55, 3) := by decide +kernel
theorem dX3_workOut_47 : decode cX3_workOut 47 = .ok (.iconst 0, 1) := by decide +kernel
theorem dX3_workOut_48 : decode cX3_workOut 48 = .ok (.istore_n 3, 1) := by decide +kernel
theorem dX3_workOut_49 : decode cX3_workOut 49 = .ok (.iconst 0, 1) := by decide +kernel
theorem dX3_workOut_50 : decode cX3_workOut 50 = .ok (.istore 4, 2) := by decide +kernel
theorem dX3_workOut_52 : decode cX3_workOut 52 = .ok (.iload 4, 2) := by decide +kernel
theorem dX3_workOut_54 : decode cX3_workOut 54 = .ok (.iconst 3, 1) := by decide +kernel
theorem dX3_workOut_55 : decode cX3_workOut 55 = .ok (.if_icmp .ge 86, 3) := by decide +kernel
theorem dX3_workOut_58 : decode cX3_workOut 58 = .ok (.aload_n 0, 1) := by decide +kernel
theorem dX3_workOut_59 : decode cX3_workOut 59 = .ok (.getfield 22, 3) := by decide +kernel
theorem dX3_workOut_62 : decode cX3_workOut 62 = .ok (.iconst (-1), 1) := by decide +kernel
theorem dX3_workOut_63 : decode cX3_workOut 63 = .ok (.if_icmp .ne 78, 3) := by decide +kernel
theorem dX3_workOut_66 : decode cX3_workOut 66 = .ok (.iload_n 3, 1) := by decide +kernel
theorem dX3_workOut_67 : decode cX3_workOut 67 = .ok (.aload_n 0, 1) := by decide +kernel
theorem dX3_workOut_68 : decode cX3_workOut 68 = .ok (.aload_n 1, 1) := by decide +kernel
theorem dX3_workOut_69 : decode cX3_workOut 69 = .ok (.iload_n 3, 1) := by decide +kernel
theorem dX3_workOut_70 : decode cX3_workOut 70 = .ok (.invokevirtual 58, 3) := by decide +kernel
theorem dX3_workOut_73 : decode cX3_workOut 73 = .ok (.ior, 1) := by decide +kernel
theorem dX3_workOut_74 : decode cX3_workOut 74 = .ok (.istore_n 3, 1) := by decide +kernel
theorem dX3_workOut_75 : decode cX3_workOut 75 = .ok (.aload_n 0, 1) := by decide +kernel
theorem dX3_workOut_76 : decode cX3_workOut 76 = .ok (.getfield 22, 3) := by decide +kernel
theorem dX3_workOut_79 : decode cX3_workOut 79 = .ok (.iconst (-1), 1) := by decide +kernel
theorem dX3_workOut_80 : decode cX3_workOut 80 = .ok (.if_icmp .ne 61, 3) := by decide +kernel
theorem dX3_workOut_83 : decode cX3_workOut 83 = .ok (.aload_n 0, 1) := by decide +kernel
theorem dX3_workOut_84 : decode cX3_workOut 84 = .ok (.getfield 19, 3) := by decide +kernel
theorem dX3_workOut_87 : decode cX3_workOut 87 = .ok (.aload_n 0, 1) := by decide +kernel
theorem dX3_workOut_88 : decode cX3_workOut 88 = .ok (.getfield 15, 3) := by decide +kernel
theorem dX3_workOut_91 : decode cX3_workOut 91 = .ok (.if_icmp .lt 6, 3) := by decide +kernel
theorem dX3_workOut_94 : decode cX3_workOut 94 = .ok (.goto 47, 3) := by decide +kernel
theorem dX3_workOut_97 : decode cX3_workOut 97 = .ok (.aload_n 0, 1) := by decide +kernel
theorem dX3_workOut_98 : decode cX3_workOut 98 = .ok (.invokevirtual 62, 3) := by decide +kernel
theorem dX3_workOut_101 : decode cX3_workOut 101 = .ok (.bipush 59, 2) := by decide +kernel
theorem dX3_workOut_103 : decode cX3_workOut 103 = .ok (.if_icmp .ne 24, 3) := by decide +kernel
theorem dX3_workOut_106 : decode cX3_workOut 106 = .ok (.iload 4, 2) := by decide +kernel
theorem dX3_workOut_108 : decode cX3_workOut 108 = .ok (.iconst 1, 1) := by decide +kernel
theorem dX3_workOut_109 : decode cX3_workOut 109 = .ok (.iadd, 1) := by decide +kernel
theorem dX3_workOut_110 : decode cX3_workOut 110 = .ok (.iconst 3, 1) := by decide +kernel
theorem dX3_workOut_111 : decode cX3_workOut 111 = .ok (.if_icmp .ge 16, 3) := by decide +kernel
theorem dX3_workOut_114 : decode cX3_workOut 114 = .ok (.aload_n 0, 1) := by decide +kernel
theorem dX3_workOut_115 : decode cX3_workOut 115 = .ok (.dup, 1) := by decide +kernel
theorem dX3_workOut_116 : decode cX3_workOut 116 = .ok (.getfield 19, 3) := by decide +kernel
theorem dX3_workOut_119 : decode cX3_workOut 119 = .ok (.iconst 1, 1) := by decide +kernel
theorem dX3_workOut_120 : decode cX3_workOut 120 = .ok (.iadd, 1) := by decide +kernel
theorem dX3_workOut_121 : decode cX3_workOut 121 = .ok (.putfield 19, 3) := by decide +kernel
theorem dX3_workOut_124 : decode cX3_workOut 124 = .ok (.goto 11, 3) := by decide +kernel
theorem dX3_workOut_127 : decode cX3_workOut 127 = .ok (.aload_n 0, 1) := by decide +kernel
theorem dX3_workOut_128 : decode cX3_workOut 128 = .ok (.aload_n 0, 1) := by decide +kernel
theorem dX3_workOut_129 : decode cX3_workOut 129 = .ok (.getfield 19, 3) := by decide +kernel
theorem dX3_workOut_132 : decode cX3_workOut 132 = .ok (.putfield 22, 3) := by decide +kernel
theorem dX3_workOut_135 : decode cX3_workOut 135 = .ok (.iinc 4 1, 3) := by decide +kernel
theorem dX3_workOut_138 : decode cX3_workOut 138 = .ok (.goto (-86), 3) := by decide +kernel
theorem dX3_workOut_141 : decode cX3_workOut 141 = .ok (.aload_n 0, 1) := by decide +kernel
theorem dX3_workOut_142 : decode cX3_workOut 142 = .ok (.getfield 22, 3) := by decide +kernel
theorem dX3_workOut_145 : decode cX3_workOut 145 = .ok (.ireturn, 1) := by decide +kernel
theorem dX3_look_0 : decode cX3_look 0 = .ok (.iconst 0, 1) := by decide +kernel
theorem dX3_look_1 : decode cX3_look 1 = .ok (.istore_n 3, 1) := by decide +kernel
theorem dX3_look_2 : decode cX3_look 2 = .ok (.aload_n 0, 1) := by decide +kernel
theorem dX3_look_3 : decode cX3_look 3 = .ok (.aload_n 1, 1) := by decide +kernel
theorem dX3_look_4 : decode cX3_look 4 = .ok (.getfield 66, 3) := by decide +kernel
theorem dX3_look_7 : decode cX3_look 7 = .ok (.invokestatic 67, 3) := by decide +kernel
theorem dX3_look_10 : decode cX3_look 10 = .ok (.putfield 25, 3) := by decide +kernel
theorem dX3_look_13 : decode cX3_look 13 = .ok (.aload_n 0, 1) := by decide +kernel
theorem dX3_look_14 : decode cX3_look 14 = .ok (.iconst 0, 1) := by decide +kernel
theorem dX3_look_15 : decode cX3_look 15 = .ok (.putfield 31, 3) := by decide +kernel
theorem dX3_look_18 : decode cX3_look 18 = .ok (.aload_n 0, 1) := by decide +kernel
theorem dX3_look_19 : decode cX3_look 19 = .ok (.iconst 0, 1) := by decide +kernel
theorem dX3_look_20 : decode cX3_look 20 = .ok (.putfield 34, 3) := by decide +kernel
theorem dX3_look_23 : decode cX3_look 23 = .ok (.iconst 0, 1) := by decide +kernel
theorem dX3_look_24 : decode cX3_look 24 = .ok (.istore 4, 2) := by decide +kernel
theorem dX3_look_26 : decode cX3_look 26 = .ok (.iload 4, 2) := by decide +kernel
theorem dX3_look_28 : decode cX3_look 28 = .ok (.bipush 12, 2) := by decide +kernel
theorem dX3_look_30 : decode cX3_look 30 = .ok (.if_icmp .ge 70, 3) := by decide +kernel
theorem dX3_look_33 : decode cX3_look 33 = .ok (.aload_n 1, 1) := by decide +kernel
theorem dX3_look_34 : decode cX3_look 34 = .ok (.getfield 66, 3) := by decide +kernel
theorem dX3_look_37 : decode cX3_look 37 = .ok (.iload 4, 2) := by decide +kernel
theorem dX3_look_39 : decode cX3_look 39 = .ok (.ishr, 1) := by decide +kernel
theorem dX3_look_40 : decode cX3_look 40 = .ok (.iconst 1, 1) := by decide +kernel
theorem dX3_look_41 : decode cX3_look 41 = .ok (.iand, 1) := by decide +kernel
theorem dX3_look_42 : decode cX3_look 42 = .ok (.ifCond .ne 6, 3) := by decide +kernel
theorem dX3_look_45 : decode cX3_look 45 = .ok (.goto 49, 3) := by decide +kernel
theorem dX3_look_48 : decode cX3_look 48 = .ok (.iload_n 3, 1) := by decide +kernel
theorem dX3_look_49 : decode cX3_look 49 = .ok (.iconst 1, 1) := by decide +kernel
theorem dX3_look_50 : decode cX3_look 50 = .ok (.aload_n 2, 1) := by decide +kernel
theorem dX3_look_51 : decode cX3_look 51 = .ok (.getfield 73, 3) := by decide +kernel
theorem dX3_look_54 : decode cX3_look 54 = .ok (.iload 4, 2) := by decide +kernel
theorem dX3_look_56 : decode cX3_look 56 = .ok (.iaload, 1) := by decide +kernel
theorem dX3_look_57 : decode cX3_look 57 = .ok (.ishl, 1) := by decide +kernel
theorem dX3_look_58 : decode cX3_look 58 = .ok (.ior, 1) := by decide +kernel
theorem dX3_look_59 : decode cX3_look 59 = .ok (.istore_n 3, 1) := by decide +kernel
theorem dX3_look_60 : decode cX3_look 60 = .ok (.aload_n 0, 1) := by decide +kernel
theorem dX3_look_61 : decode cX3_look 61 = .ok (.dup, 1) := by decide +kernel
theorem dX3_look_62 : decode cX3_look 62 = .ok (.getfield 31, 3) := by decide +kernel
theorem dX3_look_65 : decode cX3_look 65 = .ok (.aload_n 1, 1) := by decide +kernel
theorem dX3_look_66 : decode cX3_look 66 = .ok (.getfield 79, 3) := by decide +kernel
theorem dX3_look_69 : decode cX3_look 69 = .ok (.iload 4, 2) := by decide +kernel
theorem dX3_look_71 : decode cX3_look 71 = .ok (.iaload, 1) := by decide +kernel
theorem dX3_look_72 : decode cX3_look 72 = .ok (.iadd, 1) := by decide +kernel
theorem dX3_look_73 : decode cX3_look 73 = .ok (.putfield 31, 3) := by decide +kernel
theorem dX3_look_76 : decode cX3_look 76 = .ok (.aload_n 0, 1) := by decide +kernel
theorem dX3_look_77 : decode cX3_look 77 = .ok (.aload_n 0, 1) := by decide +kernel
theorem dX3_look_78 : decode cX3_look 78 = .ok (.getfield 34, 3) := by decide +kernel
theorem dX3_look_81 : decode cX3_look 81 = .ok (.aload_n 1, 1) := by decide +kernel
theorem dX3_look_82 : decode cX3_look 82 = .ok (.getfield 79, 3) := by decide +kernel
theorem dX3_look_85 : decode cX3_look 85 = .ok (.iload 4, 2) := by decide +kernel
theorem dX3_look_87 : decode cX3_look 87 = .ok (.iaload, 1) := by decide +kernel
theorem dX3_look_88 : decode cX3_look 88 = .ok (.invokestatic 82, 3) := by decide +kernel
theorem dX3_look_91 : decode cX3_look 91 = .ok (.putfield 34, 3) := by decide +kernel
theorem dX3_look_94 : decode cX3_look 94 = .ok (.iinc 4 1, 3) := by decide +kernel
theorem dX3_look_97 : decode cX3_look 97 = .ok (.goto (-71), 3) := by decide +kernel
theorem dX3_look_100 : decode cX3_look 100 = .ok (.aload_n 0, 1) := by decide +kernel
theorem dX3_look_101 : decode cX3_look 101 = .ok (.iload_n 3, 1) := by decide +kernel
theorem dX3_look_102 : decode cX3_look 102 = .ok (.invokestatic 67, 3) := by decide +kernel
theorem dX3_look_105 : decode cX3_look 105 = .ok (.putfield 28, 3) := by decide +kernel
theorem dX3_look_108 : decode cX3_look 108 = .ok (.return_, 1) := by decide +kernel
theorem dX3_readPart_0 : decode cX3_readPart 0 = .ok (.aload_n 0, 1) := by decide +kernel
theorem dX3_readPart_1 : decode cX3_readPart 1 = .ok (.invokevirtual 62, 3) := by decide +kernel
theorem dX3_readPart_4 : decode cX3_readPart 4 = .ok (.istore_n 3, 1) := by decide +kernel
theorem dX3_readPart_5 : decode cX3_readPart 5 = .ok (.iload_n 3, 1) := by decide +kernel
theorem dX3_readPart_6 : decode cX3_readPart 6 = .ok (.bipush 99, 2) := by decide +kernel
theorem dX3_readPart_8 : decode cX3_readPart 8 = .ok (.if_icmp .ne 7, 3) := by decide +kernel
theorem dX3_readPart_11 : decode cX3_readPart 11 = .ok (.iconst 1, 1) := by decide +kernel
theorem dX3_readPart_12 : decode cX3_readPart 12 = .ok (.goto 24, 3) := by decide +kernel
theorem dX3_readPart_15 : decode cX3_readPart 15 = .ok (.iload_n 3, 1) := by decide +kernel
theorem dX3_readPart_16 : decode cX3_readPart 16 = .ok (.bipush 115, 2) := by decide +kernel
theorem dX3_readPart_18 : decode cX3_readPart 18 = .ok (.if_icmp .ne 7, 3) := by decide +kernel
theorem dX3_readPart_21 : decode cX3_readPart 21 = .ok (.iconst 2, 1) := by decide +kernel
theorem dX3_readPart_22 : decode cX3_readPart 22 = .ok (.goto 14, 3) := by decide +kernel
theorem dX3_readPart_25 : decode cX3_readPart 25 = .ok (.iload_n 3, 1) := by decide +kernel
theorem dX3_readPart_26 : decode cX3_readPart 26 = .ok (.bipush 112, 2) := by decide +kernel
theorem dX3_readPart_28 : decode cX3_readPart 28 = .ok (.if_icmp .ne 7, 3) := by decide +kernel
theorem dX3_readPart_31 : decode cX3_readPart 31 = .ok (.iconst 4, 1) := by decide +kernel
theorem dX3_readPart_32 : decode cX3_readPart 32 = .ok (.goto 4, 3) := by decide +kernel
theorem dX3_readPart_35 : decode cX3_readPart 35 = .ok (.iconst 0, 1) := by decide +kernel
theorem dX3_readPart_36 : decode cX3_readPart 36 = .ok (.istore 4, 2) := by decide +kernel
theorem dX3_readPart_38 : decode cX3_readPart 38 = .ok (.iload 4, 2) := by decide +kernel
theorem dX3_readPart_40 : decode cX3_readPart 40 = .ok (.ifCond .eq 10, 3) := by decide +kernel
theorem dX3_readPart_43 : decode cX3_readPart 43 = .ok (.iload_n 2, 1) := by decide +kernel
theorem dX3_readPart_44 : decode cX3_readPart 44 = .ok (.iload 4, 2) := by decide +kernel
theorem dX3_readPart_46 : decode cX3_readPart 46 = .ok (.iand, 1) := by decide +kernel
theorem dX3_readPart_47 : decode cX3_readPart 47 = .ok (.ifCond .eq 13, 3) := by decide +kernel
theorem dX3_readPart_50 : decode cX3_readPart 50 = .ok (.aload_n 0, 1) := by decide +kernel
theorem dX3_readPart_51 : decode cX3_readPart 51 = .ok (.aload_n 0, 1) := by decide +kernel
theorem dX3_readPart_52 : decode cX3_readPart 52 = .ok (.getfield 19, 3) := by decide +kernel
theorem dX3_readPart_55 : decode cX3_readPart 55 = .ok (.putfield 22, 3) := by decide +kernel
theorem dX3_readPart_58 : decode cX3_readPart 58 = .ok (.iconst 0, 1) := by decide +kernel
theorem dX3_readPart_59 : decode cX3_readPart 59 = .ok (.ireturn, 1) := by decide +kernel
theorem dX3_readPart_60 : decode cX3_readPart 60 = .ok (.aload_n 0, 1) := by decide +kernel
theorem dX3_readPart_61 : decode cX3_readPart 61 = .ok (.dup, 1) := by decide +kernel
theorem dX3_readPart_62 : decode cX3_readPart 62 = .ok (.getfield 19, 3) := by decide +kernel
theorem dX3_readPart_65 : decode cX3_readPart 65 = .ok (.iconst 1, 1) := by decide +kernel
theorem dX3_readPart_66 : decode cX3_readPart 66 = .ok (.iadd, 1) := by decide +kernel
theorem dX3_readPart_67 : decode cX3_readPart 67 = .ok (.putfield 19, 3) := by decide +kernel
theorem dX3_readPart_70 : decode cX3_readPart 70 = .ok (.aload_n 0, 1) := by decide +kernel
theorem dX3_readPart_71 : decode cX3_readPart 71 = .ok (.invokevirtual 62, 3) := by decide +kernel
theorem dX3_readPart_74 : decode cX3_readPart 74 = .ok (.bipush 32, 2) := by decide +kernel
theorem dX3_readPart_76 : decode cX3_readPart 76 = .ok (.if_icmp .eq 13, 3) := by decide +kernel
theorem dX3_readPart_79 : decode cX3_readPart 79 = .ok (.aload_n 0, 1) := by decide +kernel
theorem dX3_readPart_80 : decode cX3_readPart 80 = .ok (.aload_n 0, 1) := by decide +kernel
theorem dX3_readPart_81 : decode cX3_readPart 81 = .ok (.getfield 19, 3) := by decide +kernel
theorem dX3_readPart_84 : decode cX3_readPart 84 = .ok (.putfield 22, 3) := by decide +kernel
theorem dX3_readPart_87 : decode cX3_readPart 87 = .ok (.iconst 0, 1) := by decide +kernel
theorem dX3_readPart_88 : decode cX3_readPart 88 = .ok (.ireturn, 1) := by decide +kernel
theorem dX3_readPart_89 : decode cX3_readPart 89 = .ok (.aload_n 0, 1) := by decide +kernel
theorem dX3_readPart_90 : decode cX3_readPart 90 = .ok (.dup, 1) := by decide +kernel
theorem dX3_readPart_91 : decode cX3_readPart 91 = .ok (.getfield 19, 3) := by decide +kernel
theorem dX3_readPart_94 : decode cX3_readPart 94 = .ok (.iconst 1, 1) := by decide +kernel
theorem dX3_readPart_95 : decode cX3_readPart 95 = .ok (.iadd, 1) := by decide +kernel
theorem dX3_readPart_96 : decode cX3_readPart 96 = .ok (.putfield 19, 3) := by decide +kernel
theorem dX3_readPart_99 : decode cX3_readPart 99 = .ok (.iload_n 3, 1) := by decide +kernel
theorem dX3_readPart_100 : decode cX3_readPart 100 = .ok (.bipush 99, 2) := by decide +kernel
theorem dX3_readPart_102 : decode cX3_readPart 102 = .ok (.if_icmp .ne 18, 3) := by decide +kernel
theorem dX3_readPart_105 : decode cX3_readPart 105 = .ok (.aload_n 1, 1) := by decide +kernel
theorem dX3_readPart_106 : decode cX3_readPart 106 = .ok (.aload_n 0, 1) := by decide +kernel
theorem dX3_readPart_107 : decode cX3_readPart 107 = .ok (.iconst 0, 1) := by decide +kernel
theorem dX3_readPart_108 : decode cX3_readPart 108 = .ok (.invokevirtual 88, 3) := by decide +kernel
theorem dX3_readPart_111 : decode cX3_readPart 111 = .ok (.invokestatic 91, 3) := by decide +kernel
theorem dX3_readPart_114 : decode cX3_readPart 114 = .ok (.putfield 49, 3) := by decide +kernel
theorem dX3_readPart_117 : decode cX3_readPart 117 = .ok (.goto 32, 3) := by decide +kernel
theorem dX3_readPart_120 : decode cX3_readPart 120 = .ok (.iload_n 3, 1) := by decide +kernel
theorem dX3_readPart_121 : decode cX3_readPart 121 = .ok (.bipush 115, 2) := by decide +kernel
theorem dX3_readPart_123 : decode cX3_readPart 123 = .ok (.if_icmp .ne 18, 3) := by decide +kernel
theorem dX3_readPart_126 : decode cX3_readPart 126 = .ok (.aload_n 1, 1) := by decide +kernel
theorem dX3_readPart_127 : decode cX3_readPart 127 = .ok (.aload_n 0, 1) := by decide +kernel
theorem dX3_readPart_128 : decode cX3_readPart 128 = .ok (.iconst 0, 1) := by decide +kernel
theorem dX3_readPart_129 : decode cX3_readPart 129 = .ok (.invokevirtual 88, 3) := by decide +kernel
theorem dX3_readPart_132 : decode cX3_readPart 132 = .ok (.invokestatic 91, 3) := by decide +kernel
theorem dX3_readPart_135 : decode cX3_readPart 135 = .ok (.putfield 52, 3) := by decide +kernel
theorem dX3_readPart_138 : decode cX3_readPart 138 = .ok (.goto 11, 3) := by decide +kernel
theorem dX3_readPart_141 : decode cX3_readPart 141 = .ok (.aload_n 1, 1) := by decide +kernel
theorem dX3_readPart_142 : decode cX3_readPart 142 = .ok (.aload_n 0, 1) := by decide +kernel
theorem dX3_readPart_143 : decode cX3_readPart 143 = .ok (.invokevirtual 94, 3) := by decide +kernel
theorem dX3_readPart_146 : decode cX3_readPart 146 = .ok (.putfield 55, 3) := by decide +kernel
theorem dX3_readPart_149 : decode cX3_readPart 149 = .ok (.iload 4, 2) := by decide +kernel
theorem dX3_readPart_151 : decode cX3_readPart 151 = .ok (.ireturn, 1) := by decide +kernel
theorem dX3_heldWithin_0 : decode cX3_heldWithin 0 = .ok (.iconst 1, 1) := by decide +kernel
theorem dX3_heldWithin_1 : decode cX3_heldWithin 1 = .ok (.iconst 4, 1) := by decide +kernel
theorem dX3_heldWithin_2 : decode cX3_heldWithin 2 = .ok (.iload_n 0, 1) := by decide +kernel
theorem dX3_heldWithin_3 : decode cX3_heldWithin 3 = .ok (.invokestatic 97, 3) := by decide +kernel
theorem dX3_heldWithin_6 : decode cX3_heldWithin 6 = .ok (.invokestatic 82, 3) := by decide +kernel
theorem dX3_heldWithin_9 : decode cX3_heldWithin 9 = .ok (.ireturn, 1) := by decide +kernel
theorem dX3_readWay_0 : decode cX3_readWay 0 = .ok (.aload_n 0, 1) := by decide +kernel
theorem dX3_readWay_1 : decode cX3_readWay 1 = .ok (.invokevirtual 62, 3) := by decide +kernel
theorem dX3_readWay_4 : decode cX3_readWay 4 = .ok (.bipush 48, 2) := by decide +kernel
theorem dX3_readWay_6 : decode cX3_readWay 6 = .ok (.isub, 1) := by decide +kernel
theorem dX3_readWay_7 : decode cX3_readWay 7 = .ok (.istore_n 1, 1) := by decide +kernel
theorem dX3_readWay_8 : decode cX3_readWay 8 = .ok (.iload_n 1, 1) := by decide +kernel
theorem dX3_readWay_9 : decode cX3_readWay 9 = .ok (.ifCond .lt 8, 3) := by decide +kernel
theorem dX3_readWay_12 : decode cX3_readWay 12 = .ok (.iload_n 1, 1) := by decide +kernel
theorem dX3_readWay_13 : decode cX3_readWay 13 = .ok (.iconst 2, 1) := by decide +kernel
theorem dX3_readWay_14 : decode cX3_readWay 14 = .ok (.if_icmp .le 13, 3) := by decide +kernel
theorem dX3_readWay_17 : decode cX3_readWay 17 = .ok (.aload_n 0, 1) := by decide +kernel
theorem dX3_readWay_18 : decode cX3_readWay 18 = .ok (.aload_n 0, 1) := by decide +kernel
theorem dX3_readWay_19 : decode cX3_readWay 19 = .ok (.getfield 19, 3) := by decide +kernel
theorem dX3_readWay_22 : decode cX3_readWay 22 = .ok (.putfield 22, 3) := by decide +kernel
theorem dX3_readWay_25 : decode cX3_readWay 25 = .ok (.iconst 0, 1) := by decide +kernel
theorem dX3_readWay_26 : decode cX3_readWay 26 = .ok (.ireturn, 1) := by decide +kernel
theorem dX3_readWay_27 : decode cX3_readWay 27 = .ok (.aload_n 0, 1) := by decide +kernel
theorem dX3_readWay_28 : decode cX3_readWay 28 = .ok (.dup, 1) := by decide +kernel
theorem dX3_readWay_29 : decode cX3_readWay 29 = .ok (.getfield 19, 3) := by decide +kernel
theorem dX3_readWay_32 : decode cX3_readWay 32 = .ok (.iconst 1, 1) := by decide +kernel
theorem dX3_readWay_33 : decode cX3_readWay 33 = .ok (.iadd, 1) := by decide +kernel
theorem dX3_readWay_34 : decode cX3_readWay 34 = .ok (.putfield 19, 3) := by decide +kernel
theorem dX3_readWay_37 : decode cX3_readWay 37 = .ok (.iload_n 1, 1) := by decide +kernel
theorem dX3_readWay_38 : decode cX3_readWay 38 = .ok (.ireturn, 1) := by decide +kernel
theorem dX3_readSum_0 : decode cX3_readSum 0 = .ok (.aload_n 0, 1) := by decide +kernel
theorem dX3_readSum_1 : decode cX3_readSum 1 = .ok (.iload_n 1, 1) := by decide +kernel
theorem dX3_readSum_2 : decode cX3_readSum 2 = .ok (.invokevirtual 100, 3) := by decide +kernel
theorem dX3_readSum_5 : decode cX3_readSum 5 = .ok (.istore_n 2, 1) := by decide +kernel
theorem dX3_readSum_6 : decode cX3_readSum 6 = .ok (.iconst 0, 1) := by decide +kernel
theorem dX3_readSum_7 : decode cX3_readSum 7 = .ok (.istore_n 3, 1) := by decide +kernel
theorem dX3_readSum_8 : decode cX3_readSum 8 = .ok (.iload_n 3, 1) := by decide +kernel
theorem dX3_readSum_9 : decode cX3_readSum 9 = .ok (.bipush 80, 2) := by decide +kernel
theorem dX3_readSum_11 : decode cX3_readSum 11 = .ok (.if_icmp .ge 76, 3) := by decide +kernel
theorem dX3_readSum_14 : decode cX3_readSum 14 = .ok (.aload_n 0, 1) := by decide +kernel
theorem dX3_readSum_15 : decode cX3_readSum 15 = .ok (.getfield 22, 3) := by decide +kernel
theorem dX3_readSum_18 : decode cX3_readSum 18 = .ok (.iconst (-1), 1) := by decide +kernel
theorem dX3_readSum_19 : decode cX3_readSum 19 = .ok (.if_icmp .ne 68, 3) := by decide +kernel
theorem dX3_readSum_22 : decode cX3_readSum 22 = .ok (.aload_n 0, 1) := by decide +kernel
theorem dX3_readSum_23 : decode cX3_readSum 23 = .ok (.invokevirtual 62, 3) := by decide +kernel
theorem dX3_readSum_26 : decode cX3_readSum 26 = .ok (.istore 4, 2) := by decide +kernel
theorem dX3_readSum_28 : decode cX3_readSum 28 = .ok (.iload 4, 2) := by decide +kernel
theorem dX3_readSum_30 : decode cX3_readSum 30 = .ok (.bipush 43, 2) := by decide +kernel
theorem dX3_readSum_32 : decode cX3_readSum 32 = .ok (.if_icmp .eq 13, 3) := by decide +kernel
theorem dX3_readSum_35 : decode cX3_readSum 35 = .ok (.iload 4, 2) := by decide +kernel
theorem dX3_readSum_37 : decode cX3_readSum 37 = .ok (.bipush 45, 2) := by decide +kernel
theorem dX3_readSum_39 : decode cX3_readSum 39 = .ok (.if_icmp .eq 6, 3) := by decide +kernel
theorem dX3_readSum_42 : decode cX3_readSum 42 = .ok (.goto 45, 3) := by decide +kernel
theorem dX3_readSum_45 : decode cX3_readSum 45 = .ok (.aload_n 0, 1) := by decide +kernel
theorem dX3_readSum_46 : decode cX3_readSum 46 = .ok (.dup, 1) := by decide +kernel
theorem dX3_readSum_47 : decode cX3_readSum 47 = .ok (.getfield 19, 3) := by decide +kernel
theorem dX3_readSum_50 : decode cX3_readSum 50 = .ok (.iconst 1, 1) := by decide +kernel
theorem dX3_readSum_51 : decode cX3_readSum 51 = .ok (.iadd, 1) := by decide +kernel
theorem dX3_readSum_52 : decode cX3_readSum 52 = .ok (.putfield 19, 3) := by decide +kernel
theorem dX3_readSum_55 : decode cX3_readSum 55 = .ok (.aload_n 0, 1) := by decide +kernel
theorem dX3_readSum_56 : decode cX3_readSum 56 = .ok (.iload_n 1, 1) := by decide +kernel
theorem dX3_readSum_57 : decode cX3_readSum 57 = .ok (.invokevirtual 100, 3) := by decide +kernel
theorem dX3_readSum_60 : decode cX3_readSum 60 = .ok (.istore 5, 2) := by decide +kernel
theorem dX3_readSum_62 : decode cX3_readSum 62 = .ok (.iload 4, 2) := by decide +kernel
theorem dX3_readSum_64 : decode cX3_readSum 64 = .ok (.bipush 43, 2) := by decide +kernel
theorem dX3_readSum_66 : decode cX3_readSum 66 = .ok (.if_icmp .ne 10, 3) := by decide +kernel
theorem dX3_readSum_69 : decode cX3_readSum 69 = .ok (.iload_n 2, 1) := by decide +kernel
theorem dX3_readSum_70 : decode cX3_readSum 70 = .ok (.iload 5, 2) := by decide +kernel
theorem dX3_readSum_72 : decode cX3_readSum 72 = .ok (.iadd, 1) := by decide +kernel
theorem dX3_readSum_73 : decode cX3_readSum 73 = .ok (.goto 7, 3) := by decide +kernel
theorem dX3_readSum_76 : decode cX3_readSum 76 = .ok (.iload_n 2, 1) := by decide +kernel
theorem dX3_readSum_77 : decode cX3_readSum 77 = .ok (.iload 5, 2) := by decide +kernel
theorem dX3_readSum_79 : decode cX3_readSum 79 = .ok (.isub, 1) := by decide +kernel
theorem dX3_readSum_80 : decode cX3_readSum 80 = .ok (.istore_n 2, 1) := by decide +kernel
theorem dX3_readSum_81 : decode cX3_readSum 81 = .ok (.iinc 3 1, 3) := by decide +kernel
theorem dX3_readSum_84 : decode cX3_readSum 84 = .ok (.goto (-76), 3) := by decide +kernel
theorem dX3_readSum_87 : decode cX3_readSum 87 = .ok (.iload_n 2, 1) := by decide +kernel
theorem dX3_readSum_88 : decode cX3_readSum 88 = .ok (.ireturn, 1) := by decide +kernel
theorem dX3_readProduct_0 : decode cX3_readProduct 0 = .ok (.aload_n 0, 1) := by decide +kernel
theorem dX3_readProduct_1 : decode cX3_readProduct 1 = .ok (.iload_n 1, 1) := by decide +kernel
theorem dX3_readProduct_2 : decode cX3_readProduct 2 = .ok (.invokevirtual 103, 3) := by decide +kernel
theorem dX3_readProduct_5 : decode cX3_readProduct 5 = .ok (.istore_n 2, 1) := by decide +kernel
theorem dX3_readProduct_6 : decode cX3_readProduct 6 = .ok (.iconst 0, 1) := by decide +kernel
theorem dX3_readProduct_7 : decode cX3_readProduct 7 = .ok (.istore_n 3, 1) := by decide +kernel
theorem dX3_readProduct_8 : decode cX3_readProduct 8 = .ok (.iload_n 3, 1) := by decide +kernel
theorem dX3_readProduct_9 : decode cX3_readProduct 9 = .ok (.bipush 80, 2) := by decide +kernel
theorem dX3_readProduct_11 : decode cX3_readProduct 11 = .ok (.if_icmp .ge 108, 3) := by decide +kernel
theorem dX3_readProduct_14 : decode cX3_readProduct 14 = .ok (.aload_n 0, 1) := by decide +kernel
theorem dX3_readProduct_15 : decode cX3_readProduct 15 = .ok (.getfield 22, 3) := by decide +kernel
theorem dX3_readProduct_18 : decode cX3_readProduct 18 = .ok (.iconst (-1), 1) := by decide +kernel
theorem dX3_readProduct_19 : decode cX3_readProduct 19 = .ok (.if_icmp .ne 100, 3) := by decide +kernel
theorem dX3_readProduct_22 : decode cX3_readProduct 22 = .ok (.aload_n 0, 1) := by decide +kernel
theorem dX3_readProduct_23 : decode cX3_readProduct 23 = .ok (.invokevirtual 62, 3) := by decide +kernel
theorem dX3_readProduct_26 : decode cX3_readProduct 26 = .ok (.istore 4, 2) := by decide +kernel
theorem dX3_readProduct_28 : decode cX3_readProduct 28 = .ok (.iload 4, 2) := by decide +kernel
theorem dX3_readProduct_30 : decode cX3_readProduct 30 = .ok (.bipush 42, 2) := by decide +kernel
theorem dX3_readProduct_32 : decode cX3_readProduct 32 = .ok (.if_icmp .eq 20, 3) := by decide +kernel
theorem dX3_readProduct_35 : decode cX3_readProduct 35 = .ok (.iload 4, 2) := by decide +kernel
theorem dX3_readProduct_37 : decode cX3_readProduct 37 = .ok (.bipush 47, 2) := by decide +kernel
theorem dX3_readProduct_39 : decode cX3_readProduct 39 = .ok (.if_icmp .eq 13, 3) := by decide +kernel
theorem dX3_readProduct_42 : decode cX3_readProduct 42 = .ok (.iload 4, 2) := by decide +kernel
theorem dX3_readProduct_44 : decode cX3_readProduct 44 = .ok (.bipush 37, 2) := by decide +kernel
theorem dX3_readProduct_46 : decode cX3_readProduct 46 = .ok (.if_icmp .eq 6, 3) := by decide +kernel
theorem dX3_readProduct_49 : decode cX3_readProduct 49 = .ok (.goto 70, 3) := by decide +kernel
theorem dX3_readProduct_52 : decode cX3_readProduct 52 = .ok (.aload_n 0, 1) := by decide +kernel
theorem dX3_readProduct_53 : decode cX3_readProduct 53 = .ok (.dup, 1) := by decide +kernel
theorem dX3_readProduct_54 : decode cX3_readProduct 54 = .ok (.getfield 19, 3) := by decide +kernel
theorem dX3_readProduct_57 : decode cX3_readProduct 57 = .ok (.iconst 1, 1) := by decide +kernel
theorem dX3_readProduct_58 : decode cX3_readProduct 58 = .ok (.iadd, 1) := by decide +kernel
theorem dX3_readProduct_59 : decode cX3_readProduct 59 = .ok (.putfield 19, 3) := by decide +kernel
theorem dX3_readProduct_62 : decode cX3_readProduct 62 = .ok (.aload_n 0, 1) := by decide +kernel
theorem dX3_readProduct_63 : decode cX3_readProduct 63 = .ok (.iload_n 1, 1) := by decide +kernel
theorem dX3_readProduct_64 : decode cX3_readProduct 64 = .ok (.invokevirtual 103, 3) := by decide +kernel
theorem dX3_readProduct_67 : decode cX3_readProduct 67 = .ok (.istore 5, 2) := by decide +kernel
theorem dX3_readProduct_69 : decode cX3_readProduct 69 = .ok (.iload 4, 2) := by decide +kernel
theorem dX3_readProduct_71 : decode cX3_readProduct 71 = .ok (.bipush 42, 2) := by decide +kernel
theorem dX3_readProduct_73 : decode cX3_readProduct 73 = .ok (.if_icmp .ne 11, 3) := by decide +kernel
theorem dX3_readProduct_76 : decode cX3_readProduct 76 = .ok (.iload_n 2, 1) := by decide +kernel
theorem dX3_readProduct_77 : decode cX3_readProduct 77 = .ok (.iload 5, 2) := by decide +kernel
theorem dX3_readProduct_79 : decode cX3_readProduct 79 = .ok (.imul, 1) := by decide +kernel
theorem dX3_readProduct_80 : decode cX3_readProduct 80 = .ok (.istore_n 2, 1) := by decide +kernel
theorem dX3_readProduct_81 : decode cX3_readProduct 81 = .ok (.goto 32, 3) := by decide +kernel
theorem dX3_readProduct_84 : decode cX3_readProduct 84 = .ok (.iload 5, 2) := by decide +kernel
theorem dX3_readProduct_86 : decode cX3_readProduct 86 = .ok (.ifCond .ne 8, 3) := by decide +kernel
theorem dX3_readProduct_89 : decode cX3_readProduct 89 = .ok (.iconst 0, 1) := by decide +kernel
theorem dX3_readProduct_90 : decode cX3_readProduct 90 = .ok (.istore_n 2, 1) := by decide +kernel
theorem dX3_readProduct_91 : decode cX3_readProduct 91 = .ok (.goto 22, 3) := by decide +kernel
theorem dX3_readProduct_94 : decode cX3_readProduct 94 = .ok (.iload 4, 2) := by decide +kernel
theorem dX3_readProduct_96 : decode cX3_readProduct 96 = .ok (.bipush 47, 2) := by decide +kernel
theorem dX3_readProduct_98 : decode cX3_readProduct 98 = .ok (.if_icmp .ne 10, 3) := by decide +kernel
theorem dX3_readProduct_101 : decode cX3_readProduct 101 = .ok (.iload_n 2, 1) := by decide +kernel
theorem dX3_readProduct_102 : decode cX3_readProduct 102 = .ok (.iload 5, 2) := by decide +kernel
theorem dX3_readProduct_104 : decode cX3_readProduct 104 = .ok (.idiv, 1) := by decide +kernel
theorem dX3_readProduct_105 : decode cX3_readProduct 105 = .ok (.goto 7, 3) := by decide +kernel
theorem dX3_readProduct_108 : decode cX3_readProduct 108 = .ok (.iload_n 2, 1) := by decide +kernel
theorem dX3_readProduct_109 : decode cX3_readProduct 109 = .ok (.iload 5, 2) := by decide +kernel
theorem dX3_readProduct_111 : decode cX3_readProduct 111 = .ok (.irem, 1) := by decide +kernel
theorem dX3_readProduct_112 : decode cX3_readProduct 112 = .ok (.istore_n 2, 1) := by decide +kernel
theorem dX3_readProduct_113 : decode cX3_readProduct 113 = .ok (.iinc 3 1, 3) := by decide +kernel
theorem dX3_readProduct_116 : decode cX3_readProduct 116 = .ok (.goto (-108), 3) := by decide +kernel
theorem dX3_readProduct_119 : decode cX3_readProduct 119 = .ok (.iload_n 2, 1) := by decide +kernel
theorem dX3_readProduct_120 : decode cX3_readProduct 120 = .ok (.ireturn, 1) := by decide +kernel
theorem dX3_readOperand_0 : decode cX3_readOperand 0 = .ok (.aload_n 0, 1) := by decide +kernel
theorem dX3_readOperand_1 : decode cX3_readOperand 1 = .ok (.invokevirtual 62, 3) := by decide +kernel
theorem dX3_readOperand_4 : decode cX3_readOperand 4 = .ok (.istore_n 2, 1) := by decide +kernel
