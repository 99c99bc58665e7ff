theorem dX6_greatestFor_81 : decode cX6_greatestFor 81 = .ok (.iload_n 3, 1) := by decide +kernel
theorem dX6_greatestFor_82 : decode cX6_greatestFor 82 = .ok (.ireturn, 1) := by decide +kernel
theorem dX6_movePiece_0 : decode cX6_movePiece 0 = .ok (.aload_n 0, 1) := by decide +kernel
theorem dX6_movePiece_1 : decode cX6_movePiece 1 = .ok (.getfield 42, 3) := by decide +kernel
theorem dX6_movePiece_4 : decode cX6_movePiece 4 = .ok (.iload_n 2, 1) := by decide +kernel
theorem dX6_movePiece_5 : decode cX6_movePiece 5 = .ok (.invokevirtual 117, 3) := by decide +kernel
theorem dX6_movePiece_8 : decode cX6_movePiece 8 = .ok (.ifCond .eq 14, 3) := by decide +kernel
theorem dX6_movePiece_11 : decode cX6_movePiece 11 = .ok (.aload_n 0, 1) := by decide +kernel
theorem dX6_movePiece_12 : decode cX6_movePiece 12 = .ok (.getfield 42, 3) := by decide +kernel
theorem dX6_movePiece_15 : decode cX6_movePiece 15 = .ok (.iload_n 3, 1) := by decide +kernel
theorem dX6_movePiece_16 : decode cX6_movePiece 16 = .ok (.invokevirtual 117, 3) := by decide +kernel
theorem dX6_movePiece_19 : decode cX6_movePiece 19 = .ok (.ifCond .ne 14, 3) := by decide +kernel
theorem dX6_movePiece_22 : decode cX6_movePiece 22 = .ok (.aload_n 0, 1) := by decide +kernel
theorem dX6_movePiece_23 : decode cX6_movePiece 23 = .ok (.getfield 22, 3) := by decide +kernel
theorem dX6_movePiece_26 : decode cX6_movePiece 26 = .ok (.iload_n 2, 1) := by decide +kernel
theorem dX6_movePiece_27 : decode cX6_movePiece 27 = .ok (.aaload, 1) := by decide +kernel
theorem dX6_movePiece_28 : decode cX6_movePiece 28 = .ok (.iload_n 1, 1) := by decide +kernel
theorem dX6_movePiece_29 : decode cX6_movePiece 29 = .ok (.iconst 0, 1) := by decide +kernel
theorem dX6_movePiece_30 : decode cX6_movePiece 30 = .ok (.iastore, 1) := by decide +kernel
theorem dX6_movePiece_31 : decode cX6_movePiece 31 = .ok (.iconst 0, 1) := by decide +kernel
theorem dX6_movePiece_32 : decode cX6_movePiece 32 = .ok (.ireturn, 1) := by decide +kernel
theorem dX6_movePiece_33 : decode cX6_movePiece 33 = .ok (.aload_n 0, 1) := by decide +kernel
theorem dX6_movePiece_34 : decode cX6_movePiece 34 = .ok (.getfield 25, 3) := by decide +kernel
theorem dX6_movePiece_37 : decode cX6_movePiece 37 = .ok (.iload_n 2, 1) := by decide +kernel
theorem dX6_movePiece_38 : decode cX6_movePiece 38 = .ok (.aaload, 1) := by decide +kernel
theorem dX6_movePiece_39 : decode cX6_movePiece 39 = .ok (.iload_n 1, 1) := by decide +kernel
theorem dX6_movePiece_40 : decode cX6_movePiece 40 = .ok (.iaload, 1) := by decide +kernel
theorem dX6_movePiece_41 : decode cX6_movePiece 41 = .ok (.iload_n 3, 1) := by decide +kernel
theorem dX6_movePiece_42 : decode cX6_movePiece 42 = .ok (.if_icmp .eq 12, 3) := by decide +kernel
theorem dX6_movePiece_45 : decode cX6_movePiece 45 = .ok (.aload_n 0, 1) := by decide +kernel
theorem dX6_movePiece_46 : decode cX6_movePiece 46 = .ok (.getfield 22, 3) := by decide +kernel
theorem dX6_movePiece_49 : decode cX6_movePiece 49 = .ok (.iload_n 2, 1) := by decide +kernel
theorem dX6_movePiece_50 : decode cX6_movePiece 50 = .ok (.aaload, 1) := by decide +kernel
theorem dX6_movePiece_51 : decode cX6_movePiece 51 = .ok (.iload_n 1, 1) := by decide +kernel
theorem dX6_movePiece_52 : decode cX6_movePiece 52 = .ok (.iconst 0, 1) := by decide +kernel
theorem dX6_movePiece_53 : decode cX6_movePiece 53 = .ok (.iastore, 1) := by decide +kernel
theorem dX6_movePiece_54 : decode cX6_movePiece 54 = .ok (.aload_n 0, 1) := by decide +kernel
theorem dX6_movePiece_55 : decode cX6_movePiece 55 = .ok (.getfield 25, 3) := by decide +kernel
theorem dX6_movePiece_58 : decode cX6_movePiece 58 = .ok (.iload_n 2, 1) := by decide +kernel
theorem dX6_movePiece_59 : decode cX6_movePiece 59 = .ok (.aaload, 1) := by decide +kernel
theorem dX6_movePiece_60 : decode cX6_movePiece 60 = .ok (.iload_n 1, 1) := by decide +kernel
theorem dX6_movePiece_61 : decode cX6_movePiece 61 = .ok (.iload_n 3, 1) := by decide +kernel
theorem dX6_movePiece_62 : decode cX6_movePiece 62 = .ok (.iastore, 1) := by decide +kernel
theorem dX6_movePiece_63 : decode cX6_movePiece 63 = .ok (.aload_n 0, 1) := by decide +kernel
theorem dX6_movePiece_64 : decode cX6_movePiece 64 = .ok (.getfield 22, 3) := by decide +kernel
theorem dX6_movePiece_67 : decode cX6_movePiece 67 = .ok (.iload_n 2, 1) := by decide +kernel
theorem dX6_movePiece_68 : decode cX6_movePiece 68 = .ok (.aaload, 1) := by decide +kernel
theorem dX6_movePiece_69 : decode cX6_movePiece 69 = .ok (.iload_n 1, 1) := by decide +kernel
theorem dX6_movePiece_70 : decode cX6_movePiece 70 = .ok (.dup2, 1) := by decide +kernel
theorem dX6_movePiece_71 : decode cX6_movePiece 71 = .ok (.iaload, 1) := by decide +kernel
theorem dX6_movePiece_72 : decode cX6_movePiece 72 = .ok (.iconst 1, 1) := by decide +kernel
theorem dX6_movePiece_73 : decode cX6_movePiece 73 = .ok (.iadd, 1) := by decide +kernel
theorem dX6_movePiece_74 : decode cX6_movePiece 74 = .ok (.iastore, 1) := by decide +kernel
theorem dX6_movePiece_75 : decode cX6_movePiece 75 = .ok (.aload_n 0, 1) := by decide +kernel
theorem dX6_movePiece_76 : decode cX6_movePiece 76 = .ok (.getfield 22, 3) := by decide +kernel
theorem dX6_movePiece_79 : decode cX6_movePiece 79 = .ok (.iload_n 2, 1) := by decide +kernel
theorem dX6_movePiece_80 : decode cX6_movePiece 80 = .ok (.aaload, 1) := by decide +kernel
theorem dX6_movePiece_81 : decode cX6_movePiece 81 = .ok (.iload_n 1, 1) := by decide +kernel
theorem dX6_movePiece_82 : decode cX6_movePiece 82 = .ok (.iaload, 1) := by decide +kernel
theorem dX6_movePiece_83 : decode cX6_movePiece 83 = .ok (.iconst 3, 1) := by decide +kernel
theorem dX6_movePiece_84 : decode cX6_movePiece 84 = .ok (.if_icmp .ge 12, 3) := by decide +kernel
theorem dX6_movePiece_87 : decode cX6_movePiece 87 = .ok (.aload_n 0, 1) := by decide +kernel
theorem dX6_movePiece_88 : decode cX6_movePiece 88 = .ok (.getfield 22, 3) := by decide +kernel
theorem dX6_movePiece_91 : decode cX6_movePiece 91 = .ok (.iload_n 2, 1) := by decide +kernel
theorem dX6_movePiece_92 : decode cX6_movePiece 92 = .ok (.aaload, 1) := by decide +kernel
theorem dX6_movePiece_93 : decode cX6_movePiece 93 = .ok (.iload_n 1, 1) := by decide +kernel
theorem dX6_movePiece_94 : decode cX6_movePiece 94 = .ok (.iaload, 1) := by decide +kernel
theorem dX6_movePiece_95 : decode cX6_movePiece 95 = .ok (.ireturn, 1) := by decide +kernel
theorem dX6_movePiece_96 : decode cX6_movePiece 96 = .ok (.aload_n 0, 1) := by decide +kernel
theorem dX6_movePiece_97 : decode cX6_movePiece 97 = .ok (.iload_n 3, 1) := by decide +kernel
theorem dX6_movePiece_98 : decode cX6_movePiece 98 = .ok (.iload_n 1, 1) := by decide +kernel
theorem dX6_movePiece_99 : decode cX6_movePiece 99 = .ok (.aload_n 0, 1) := by decide +kernel
theorem dX6_movePiece_100 : decode cX6_movePiece 100 = .ok (.getfield 11, 3) := by decide +kernel
theorem dX6_movePiece_103 : decode cX6_movePiece 103 = .ok (.iload_n 2, 1) := by decide +kernel
theorem dX6_movePiece_104 : decode cX6_movePiece 104 = .ok (.aaload, 1) := by decide +kernel
theorem dX6_movePiece_105 : decode cX6_movePiece 105 = .ok (.iload_n 1, 1) := by decide +kernel
theorem dX6_movePiece_106 : decode cX6_movePiece 106 = .ok (.iaload, 1) := by decide +kernel
theorem dX6_movePiece_107 : decode cX6_movePiece 107 = .ok (.invokevirtual 100, 3) := by decide +kernel
theorem dX6_movePiece_110 : decode cX6_movePiece 110 = .ok (.pop, 1) := by decide +kernel
theorem dX6_movePiece_111 : decode cX6_movePiece 111 = .ok (.aload_n 0, 1) := by decide +kernel
theorem dX6_movePiece_112 : decode cX6_movePiece 112 = .ok (.getfield 11, 3) := by decide +kernel
theorem dX6_movePiece_115 : decode cX6_movePiece 115 = .ok (.iload_n 2, 1) := by decide +kernel
theorem dX6_movePiece_116 : decode cX6_movePiece 116 = .ok (.aaload, 1) := by decide +kernel
theorem dX6_movePiece_117 : decode cX6_movePiece 117 = .ok (.iload_n 1, 1) := by decide +kernel
theorem dX6_movePiece_118 : decode cX6_movePiece 118 = .ok (.iconst 0, 1) := by decide +kernel
theorem dX6_movePiece_119 : decode cX6_movePiece 119 = .ok (.iastore, 1) := by decide +kernel
theorem dX6_movePiece_120 : decode cX6_movePiece 120 = .ok (.aload_n 0, 1) := by decide +kernel
theorem dX6_movePiece_121 : decode cX6_movePiece 121 = .ok (.getfield 22, 3) := by decide +kernel
theorem dX6_movePiece_124 : decode cX6_movePiece 124 = .ok (.iload_n 2, 1) := by decide +kernel
theorem dX6_movePiece_125 : decode cX6_movePiece 125 = .ok (.aaload, 1) := by decide +kernel
theorem dX6_movePiece_126 : decode cX6_movePiece 126 = .ok (.iload_n 1, 1) := by decide +kernel
theorem dX6_movePiece_127 : decode cX6_movePiece 127 = .ok (.iconst 0, 1) := by decide +kernel
theorem dX6_movePiece_128 : decode cX6_movePiece 128 = .ok (.iastore, 1) := by decide +kernel
theorem dX6_movePiece_129 : decode cX6_movePiece 129 = .ok (.iconst 3, 1) := by decide +kernel
theorem dX6_movePiece_130 : decode cX6_movePiece 130 = .ok (.ireturn, 1) := by decide +kernel
theorem dX6_mendAll_0 : decode cX6_mendAll 0 = .ok (.iconst 0, 1) := by decide +kernel
theorem dX6_mendAll_1 : decode cX6_mendAll 1 = .ok (.istore_n 2, 1) := by decide +kernel
theorem dX6_mendAll_2 : decode cX6_mendAll 2 = .ok (.iconst 0, 1) := by decide +kernel
theorem dX6_mendAll_3 : decode cX6_mendAll 3 = .ok (.istore_n 3, 1) := by decide +kernel
theorem dX6_mendAll_4 : decode cX6_mendAll 4 = .ok (.iload_n 3, 1) := by decide +kernel
theorem dX6_mendAll_5 : decode cX6_mendAll 5 = .ok (.aload_n 0, 1) := by decide +kernel
theorem dX6_mendAll_6 : decode cX6_mendAll 6 = .ok (.getfield 46, 3) := by decide +kernel
theorem dX6_mendAll_9 : decode cX6_mendAll 9 = .ok (.getfield 123, 3) := by decide +kernel
theorem dX6_mendAll_12 : decode cX6_mendAll 12 = .ok (.if_icmp .ge 104, 3) := by decide +kernel
theorem dX6_mendAll_15 : decode cX6_mendAll 15 = .ok (.aload_n 0, 1) := by decide +kernel
theorem dX6_mendAll_16 : decode cX6_mendAll 16 = .ok (.iload_n 3, 1) := by decide +kernel
theorem dX6_mendAll_17 : decode cX6_mendAll 17 = .ok (.invokevirtual 135, 3) := by decide +kernel
theorem dX6_mendAll_20 : decode cX6_mendAll 20 = .ok (.istore 4, 2) := by decide +kernel
theorem dX6_mendAll_22 : decode cX6_mendAll 22 = .ok (.iload 4, 2) := by decide +kernel
theorem dX6_mendAll_24 : decode cX6_mendAll 24 = .ok (.ifCond .ne 6, 3) := by decide +kernel
theorem dX6_mendAll_27 : decode cX6_mendAll 27 = .ok (.goto 83, 3) := by decide +kernel
theorem dX6_mendAll_30 : decode cX6_mendAll 30 = .ok (.aload_n 0, 1) := by decide +kernel
theorem dX6_mendAll_31 : decode cX6_mendAll 31 = .ok (.getfield 50, 3) := by decide +kernel
theorem dX6_mendAll_34 : decode cX6_mendAll 34 = .ok (.aload_n 1, 1) := by decide +kernel
theorem dX6_mendAll_35 : decode cX6_mendAll 35 = .ok (.aload_n 0, 1) := by decide +kernel
theorem dX6_mendAll_36 : decode cX6_mendAll 36 = .ok (.getfield 46, 3) := by decide +kernel
theorem dX6_mendAll_39 : decode cX6_mendAll 39 = .ok (.iload_n 3, 1) := by decide +kernel
theorem dX6_mendAll_40 : decode cX6_mendAll 40 = .ok (.aload_n 1, 1) := by decide +kernel
theorem dX6_mendAll_41 : decode cX6_mendAll 41 = .ok (.getfield 54, 3) := by decide +kernel
theorem dX6_mendAll_44 : decode cX6_mendAll 44 = .ok (.invokevirtual 59, 3) := by decide +kernel
theorem dX6_mendAll_47 : decode cX6_mendAll 47 = .ok (.invokevirtual 65, 3) := by decide +kernel
theorem dX6_mendAll_50 : decode cX6_mendAll 50 = .ok (.iconst 0, 1) := by decide +kernel
theorem dX6_mendAll_51 : decode cX6_mendAll 51 = .ok (.istore 5, 2) := by decide +kernel
theorem dX6_mendAll_53 : decode cX6_mendAll 53 = .ok (.iload 5, 2) := by decide +kernel
theorem dX6_mendAll_55 : decode cX6_mendAll 55 = .ok (.aload_n 0, 1) := by decide +kernel
theorem dX6_mendAll_56 : decode cX6_mendAll 56 = .ok (.getfield 50, 3) := by decide +kernel
theorem dX6_mendAll_59 : decode cX6_mendAll 59 = .ok (.getfield 71, 3) := by decide +kernel
theorem dX6_mendAll_62 : decode cX6_mendAll 62 = .ok (.if_icmp .ge 48, 3) := by decide +kernel
theorem dX6_mendAll_65 : decode cX6_mendAll 65 = .ok (.aload_n 0, 1) := by decide +kernel
theorem dX6_mendAll_66 : decode cX6_mendAll 66 = .ok (.getfield 50, 3) := by decide +kernel
theorem dX6_mendAll_69 : decode cX6_mendAll 69 = .ok (.getfield 74, 3) := by decide +kernel
theorem dX6_mendAll_72 : decode cX6_mendAll 72 = .ok (.iload 5, 2) := by decide +kernel
theorem dX6_mendAll_74 : decode cX6_mendAll 74 = .ok (.iaload, 1) := by decide +kernel
theorem dX6_mendAll_75 : decode cX6_mendAll 75 = .ok (.istore 6, 2) := by decide +kernel
theorem dX6_mendAll_77 : decode cX6_mendAll 77 = .ok (.aload_n 0, 1) := by decide +kernel
theorem dX6_mendAll_78 : decode cX6_mendAll 78 = .ok (.getfield 42, 3) := by decide +kernel
theorem dX6_mendAll_81 : decode cX6_mendAll 81 = .ok (.iload 6, 2) := by decide +kernel
theorem dX6_mendAll_83 : decode cX6_mendAll 83 = .ok (.invokevirtual 117, 3) := by decide +kernel
theorem dX6_mendAll_86 : decode cX6_mendAll 86 = .ok (.ifCond .eq 18, 3) := by decide +kernel
theorem dX6_mendAll_89 : decode cX6_mendAll 89 = .ok (.aload_n 0, 1) := by decide +kernel
theorem dX6_mendAll_90 : decode cX6_mendAll 90 = .ok (.iload 6, 2) := by decide +kernel
theorem dX6_mendAll_92 : decode cX6_mendAll 92 = .ok (.iload_n 3, 1) := by decide +kernel
theorem dX6_mendAll_93 : decode cX6_mendAll 93 = .ok (.iload 4, 2) := by decide +kernel
theorem dX6_mendAll_95 : decode cX6_mendAll 95 = .ok (.invokevirtual 93, 3) := by decide +kernel
theorem dX6_mendAll_98 : decode cX6_mendAll 98 = .ok (.ifCond .eq 6, 3) := by decide +kernel
theorem dX6_mendAll_101 : decode cX6_mendAll 101 = .ok (.iinc 2 1, 3) := by decide +kernel
theorem dX6_mendAll_104 : decode cX6_mendAll 104 = .ok (.iinc 5 1, 3) := by decide +kernel
theorem dX6_mendAll_107 : decode cX6_mendAll 107 = .ok (.goto (-54), 3) := by decide +kernel
theorem dX6_mendAll_110 : decode cX6_mendAll 110 = .ok (.iinc 3 1, 3) := by decide +kernel
theorem dX6_mendAll_113 : decode cX6_mendAll 113 = .ok (.goto (-109), 3) := by decide +kernel
theorem dX6_mendAll_116 : decode cX6_mendAll 116 = .ok (.iload_n 2, 1) := by decide +kernel
theorem dX6_mendAll_117 : decode cX6_mendAll 117 = .ok (.ireturn, 1) := by decide +kernel
theorem dX6_greatestAnywhere_0 : decode cX6_greatestAnywhere 0 = .ok (.iconst 0, 1) := by decide +kernel
theorem dX6_greatestAnywhere_1 : decode cX6_greatestAnywhere 1 = .ok (.istore_n 2, 1) := by decide +kernel
theorem dX6_greatestAnywhere_2 : decode cX6_greatestAnywhere 2 = .ok (.iconst 0, 1) := by decide +kernel
theorem dX6_greatestAnywhere_3 : decode cX6_greatestAnywhere 3 = .ok (.istore_n 3, 1) := by decide +kernel
theorem dX6_greatestAnywhere_4 : decode cX6_greatestAnywhere 4 = .ok (.iload_n 3, 1) := by decide +kernel
theorem dX6_greatestAnywhere_5 : decode cX6_greatestAnywhere 5 = .ok (.aload_n 0, 1) := by decide +kernel
theorem dX6_greatestAnywhere_6 : decode cX6_greatestAnywhere 6 = .ok (.getfield 42, 3) := by decide +kernel
theorem dX6_greatestAnywhere_9 : decode cX6_greatestAnywhere 9 = .ok (.getfield 120, 3) := by decide +kernel
theorem dX6_greatestAnywhere_12 : decode cX6_greatestAnywhere 12 = .ok (.if_icmp .ge 34, 3) := by decide +kernel
theorem dX6_greatestAnywhere_15 : decode cX6_greatestAnywhere 15 = .ok (.aload_n 0, 1) := by decide +kernel
theorem dX6_greatestAnywhere_16 : decode cX6_greatestAnywhere 16 = .ok (.getfield 42, 3) := by decide +kernel
theorem dX6_greatestAnywhere_19 : decode cX6_greatestAnywhere 19 = .ok (.getfield 81, 3) := by decide +kernel
theorem dX6_greatestAnywhere_22 : decode cX6_greatestAnywhere 22 = .ok (.iload_n 3, 1) := by decide +kernel
theorem dX6_greatestAnywhere_23 : decode cX6_greatestAnywhere 23 = .ok (.baload, 1) := by decide +kernel
theorem dX6_greatestAnywhere_24 : decode cX6_greatestAnywhere 24 = .ok (.ifCond .ne 16, 3) := by decide +kernel
theorem dX6_greatestAnywhere_27 : decode cX6_greatestAnywhere 27 = .ok (.iload_n 2, 1) := by decide +kernel
theorem dX6_greatestAnywhere_28 : decode cX6_greatestAnywhere 28 = .ok (.aload_n 0, 1) := by decide +kernel
theorem dX6_greatestAnywhere_29 : decode cX6_greatestAnywhere 29 = .ok (.getfield 11, 3) := by decide +kernel
theorem dX6_greatestAnywhere_32 : decode cX6_greatestAnywhere 32 = .ok (.iload_n 3, 1) := by decide +kernel
theorem dX6_greatestAnywhere_33 : decode cX6_greatestAnywhere 33 = .ok (.aaload, 1) := by decide +kernel
theorem dX6_greatestAnywhere_34 : decode cX6_greatestAnywhere 34 = .ok (.iload_n 1, 1) := by decide +kernel
theorem dX6_greatestAnywhere_35 : decode cX6_greatestAnywhere 35 = .ok (.iaload, 1) := by decide +kernel
theorem dX6_greatestAnywhere_36 : decode cX6_greatestAnywhere 36 = .ok (.invokestatic 130, 3) := by decide +kernel
theorem dX6_greatestAnywhere_39 : decode cX6_greatestAnywhere 39 = .ok (.istore_n 2, 1) := by decide +kernel
theorem dX6_greatestAnywhere_40 : decode cX6_greatestAnywhere 40 = .ok (.iinc 3 1, 3) := by decide +kernel
theorem dX6_greatestAnywhere_43 : decode cX6_greatestAnywhere 43 = .ok (.goto (-39), 3) := by decide +kernel
theorem dX6_greatestAnywhere_46 : decode cX6_greatestAnywhere 46 = .ok (.iload_n 2, 1) := by decide +kernel
theorem dX6_greatestAnywhere_47 : decode cX6_greatestAnywhere 47 = .ok (.ireturn, 1) := by decide +kernel
theorem dX6_compare_0 : decode cX6_compare 0 = .ok (.aload_n 0, 1) := by decide +kernel
theorem dX6_compare_1 : decode cX6_compare 1 = .ok (.aload_n 0, 1) := by decide +kernel
theorem dX6_compare_2 : decode cX6_compare 2 = .ok (.getfield 32, 3) := by decide +kernel
theorem dX6_compare_5 : decode cX6_compare 5 = .ok (.iload_n 1, 1) := by decide +kernel
theorem dX6_compare_6 : decode cX6_compare 6 = .ok (.invokevirtual 138, 3) := by decide +kernel
theorem dX6_compare_9 : decode cX6_compare 9 = .ok (.aload_n 0, 1) := by decide +kernel
theorem dX6_compare_10 : decode cX6_compare 10 = .ok (.aload_n 0, 1) := by decide +kernel
theorem dX6_compare_11 : decode cX6_compare 11 = .ok (.getfield 35, 3) := by decide +kernel
theorem dX6_compare_14 : decode cX6_compare 14 = .ok (.iload_n 2, 1) := by decide +kernel
theorem dX6_compare_15 : decode cX6_compare 15 = .ok (.invokevirtual 138, 3) := by decide +kernel
theorem dX6_compare_18 : decode cX6_compare 18 = .ok (.return_, 1) := by decide +kernel
theorem dX6_grow_0 : decode cX6_grow 0 = .ok (.aload_n 1, 1) := by decide +kernel
theorem dX6_grow_1 : decode cX6_grow 1 = .ok (.iconst 0, 1) := by decide +kernel
theorem dX6_grow_2 : decode cX6_grow 2 = .ok (.invokestatic 124, 3) := by decide +kernel
theorem dX6_grow_5 : decode cX6_grow 5 = .ok (.iconst 0, 1) := by decide +kernel
theorem dX6_grow_6 : decode cX6_grow 6 = .ok (.istore_n 3, 1) := by decide +kernel
theorem dX6_grow_7 : decode cX6_grow 7 = .ok (.iload_n 3, 1) := by decide +kernel
theorem dX6_grow_8 : decode cX6_grow 8 = .ok (.aload_n 0, 1) := by decide +kernel
theorem dX6_grow_9 : decode cX6_grow 9 = .ok (.getfield 46, 3) := by decide +kernel
theorem dX6_grow_12 : decode cX6_grow 12 = .ok (.getfield 123, 3) := by decide +kernel
theorem dX6_grow_15 : decode cX6_grow 15 = .ok (.if_icmp .ge 33, 3) := by decide +kernel
theorem dX6_grow_18 : decode cX6_grow 18 = .ok (.aload_n 1, 1) := by decide +kernel
theorem dX6_grow_19 : decode cX6_grow 19 = .ok (.bipush 8, 2) := by decide +kernel
theorem dX6_grow_21 : decode cX6_grow 21 = .ok (.iload_n 3, 1) := by decide +kernel
theorem dX6_grow_22 : decode cX6_grow 22 = .ok (.bipush 8, 2) := by decide +kernel
theorem dX6_grow_24 : decode cX6_grow 24 = .ok (.irem, 1) := by decide +kernel
theorem dX6_grow_25 : decode cX6_grow 25 = .ok (.iadd, 1) := by decide +kernel
theorem dX6_grow_26 : decode cX6_grow 26 = .ok (.dup2, 1) := by decide +kernel
theorem dX6_grow_27 : decode cX6_grow 27 = .ok (.iaload, 1) := by decide +kernel
theorem dX6_grow_28 : decode cX6_grow 28 = .ok (.iload_n 3, 1) := by decide +kernel
theorem dX6_grow_29 : decode cX6_grow 29 = .ok (.iconst 1, 1) := by decide +kernel
theorem dX6_grow_30 : decode cX6_grow 30 = .ok (.iadd, 1) := by decide +kernel
theorem dX6_grow_31 : decode cX6_grow 31 = .ok (.aload_n 0, 1) := by decide +kernel
theorem dX6_grow_32 : decode cX6_grow 32 = .ok (.getfield 11, 3) := by decide +kernel
theorem dX6_grow_35 : decode cX6_grow 35 = .ok (.iload_n 2, 1) := by decide +kernel
theorem dX6_grow_36 : decode cX6_grow 36 = .ok (.aaload, 1) := by decide +kernel
theorem dX6_grow_37 : decode cX6_grow 37 = .ok (.iload_n 3, 1) := by decide +kernel
theorem dX6_grow_38 : decode cX6_grow 38 = .ok (.iaload, 1) := by decide +kernel
theorem dX6_grow_39 : decode cX6_grow 39 = .ok (.imul, 1) := by decide +kernel
theorem dX6_grow_40 : decode cX6_grow 40 = .ok (.iadd, 1) := by decide +kernel
theorem dX6_grow_41 : decode cX6_grow 41 = .ok (.iastore, 1) := by decide +kernel
theorem dX6_grow_42 : decode cX6_grow 42 = .ok (.iinc 3 1, 3) := by decide +kernel
theorem dX6_grow_45 : decode cX6_grow 45 = .ok (.goto (-38), 3) := by decide +kernel
theorem dX6_grow_48 : decode cX6_grow 48 = .ok (.bipush 7, 2) := by decide +kernel
theorem dX6_grow_50 : decode cX6_grow 50 = .ok (.istore_n 3, 1) := by decide +kernel
theorem dX6_grow_51 : decode cX6_grow 51 = .ok (.iload_n 3, 1) := by decide +kernel
theorem dX6_grow_52 : decode cX6_grow 52 = .ok (.iconst 1, 1) := by decide +kernel
theorem dX6_grow_53 : decode cX6_grow 53 = .ok (.if_icmp .lt 25, 3) := by decide +kernel
theorem dX6_grow_56 : decode cX6_grow 56 = .ok (.aload_n 1, 1) := by decide +kernel
theorem dX6_grow_57 : decode cX6_grow 57 = .ok (.iload_n 3, 1) := by decide +kernel
theorem dX6_grow_58 : decode cX6_grow 58 = .ok (.aload_n 1, 1) := by decide +kernel
theorem dX6_grow_59 : decode cX6_grow 59 = .ok (.iconst 2, 1) := by decide +kernel
theorem dX6_grow_60 : decode cX6_grow 60 = .ok (.iload_n 3, 1) := by decide +kernel
theorem dX6_grow_61 : decode cX6_grow 61 = .ok (.imul, 1) := by decide +kernel
theorem dX6_grow_62 : decode cX6_grow 62 = .ok (.iaload, 1) := by decide +kernel
theorem dX6_grow_63 : decode cX6_grow 63 = .ok (.aload_n 1, 1) := by decide +kernel
theorem dX6_grow_64 : decode cX6_grow 64 = .ok (.iconst 2, 1) := by decide +kernel
theorem dX6_grow_65 : decode cX6_grow 65 = .ok (.iload_n 3, 1) := by decide +kernel
theorem dX6_grow_66 : decode cX6_grow 66 = .ok (.imul, 1) := by decide +kernel
theorem dX6_grow_67 : decode cX6_grow 67 = .ok (.iconst 1, 1) := by decide +kernel
theorem dX6_grow_68 : decode cX6_grow 68 = .ok (.iadd, 1) := by decide +kernel
theorem dX6_grow_69 : decode cX6_grow 69 = .ok (.iaload, 1) := by decide +kernel
theorem dX6_grow_70 : decode cX6_grow 70 = .ok (.iadd, 1) := by decide +kernel
theorem dX6_grow_71 : decode cX6_grow 71 = .ok (.iastore, 1) := by decide +kernel
theorem dX6_grow_72 : decode cX6_grow 72 = .ok (.iinc 3 (-1), 3) := by decide +kernel
theorem dX6_grow_75 : decode cX6_grow 75 = .ok (.goto (-24), 3) := by decide +kernel
theorem dX6_grow_78 : decode cX6_grow 78 = .ok (.return_, 1) := by decide +kernel
theorem dX6_wordsAsked_0 : decode cX6_wordsAsked 0 = .ok (.iconst 1, 1) := by decide +kernel
theorem dX6_wordsAsked_1 : decode cX6_wordsAsked 1 = .ok (.istore_n 1, 1) := by decide +kernel
theorem dX6_wordsAsked_2 : decode cX6_wordsAsked 2 = .ok (.iconst 2, 1) := by decide +kernel
theorem dX6_wordsAsked_3 : decode cX6_wordsAsked 3 = .ok (.istore_n 2, 1) := by decide +kernel
theorem dX6_wordsAsked_4 : decode cX6_wordsAsked 4 = .ok (.iconst 1, 1) := by decide +kernel
theorem dX6_wordsAsked_5 : decode cX6_wordsAsked 5 = .ok (.istore_n 3, 1) := by decide +kernel
theorem dX6_wordsAsked_6 : decode cX6_wordsAsked 6 = .ok (.iload_n 3, 1) := by decide +kernel
theorem dX6_wordsAsked_7 : decode cX6_wordsAsked 7 = .ok (.bipush 8, 2) := by decide +kernel
theorem dX6_wordsAsked_9 : decode cX6_wordsAsked 9 = .ok (.if_icmp .ge 46, 3) := by decide +kernel
theorem dX6_wordsAsked_12 : decode cX6_wordsAsked 12 = .ok (.iload_n 2, 1) := by decide +kernel
theorem dX6_wordsAsked_13 : decode cX6_wordsAsked 13 = .ok (.iload_n 3, 1) := by decide +kernel
theorem dX6_wordsAsked_14 : decode cX6_wordsAsked 14 = .ok (.ishr, 1) := by decide +kernel
theorem dX6_wordsAsked_15 : decode cX6_wordsAsked 15 = .ok (.iconst 1, 1) := by decide +kernel
theorem dX6_wordsAsked_16 : decode cX6_wordsAsked 16 = .ok (.iand, 1) := by decide +kernel
theorem dX6_wordsAsked_17 : decode cX6_wordsAsked 17 = .ok (.ifCond .eq 32, 3) := by decide +kernel
theorem dX6_wordsAsked_20 : decode cX6_wordsAsked 20 = .ok (.aload_n 0, 1) := by decide +kernel
theorem dX6_wordsAsked_21 : decode cX6_wordsAsked 21 = .ok (.getfield 32, 3) := by decide +kernel
theorem dX6_wordsAsked_24 : decode cX6_wordsAsked 24 = .ok (.iload_n 3, 1) := by decide +kernel
theorem dX6_wordsAsked_25 : decode cX6_wordsAsked 25 = .ok (.iaload, 1) := by decide +kernel
theorem dX6_wordsAsked_26 : decode cX6_wordsAsked 26 = .ok (.aload_n 0, 1) := by decide +kernel
theorem dX6_wordsAsked_27 : decode cX6_wordsAsked 27 = .ok (.getfield 35, 3) := by decide +kernel
theorem dX6_wordsAsked_30 : decode cX6_wordsAsked 30 = .ok (.iload_n 3, 1) := by decide +kernel
theorem dX6_wordsAsked_31 : decode cX6_wordsAsked 31 = .ok (.iaload, 1) := by decide +kernel
theorem dX6_wordsAsked_32 : decode cX6_wordsAsked 32 = .ok (.if_icmp .ne 6, 3) := by decide +kernel
theorem dX6_wordsAsked_35 : decode cX6_wordsAsked 35 = .ok (.goto 14, 3) := by decide +kernel
theorem dX6_wordsAsked_38 : decode cX6_wordsAsked 38 = .ok (.iinc 1 2, 3) := by decide +kernel
theorem dX6_wordsAsked_41 : decode cX6_wordsAsked 41 = .ok (.iload_n 2, 1) := by decide +kernel
theorem dX6_wordsAsked_42 : decode cX6_wordsAsked 42 = .ok (.iconst 3, 1) := by decide +kernel
theorem dX6_wordsAsked_43 : decode cX6_wordsAsked 43 = .ok (.iconst 2, 1) := by decide +kernel
theorem dX6_wordsAsked_44 : decode cX6_wordsAsked 44 = .ok (.iload_n 3, 1) := by decide +kernel
theorem dX6_wordsAsked_45 : decode cX6_wordsAsked 45 = .ok (.imul, 1) := by decide +kernel
theorem dX6_wordsAsked_46 : decode cX6_wordsAsked 46 = .ok (.ishl, 1) := by decide +kernel
theorem dX6_wordsAsked_47 : decode cX6_wordsAsked 47 = .ok (.ior, 1) := by decide +kernel
theorem dX6_wordsAsked_48 : decode cX6_wordsAsked 48 = .ok (.istore_n 2, 1) := by decide +kernel
theorem dX6_wordsAsked_49 : decode cX6_wordsAsked 49 = .ok (.iinc 3 1, 3) := by decide +kernel
theorem dX6_wordsAsked_52 : decode cX6_wordsAsked 52 = .ok (.goto (-46), 3) := by decide +kernel
theorem dX6_wordsAsked_55 : decode cX6_wordsAsked 55 = .ok (.iload_n 1, 1) := by decide +kernel
theorem dX6_wordsAsked_56 : decode cX6_wordsAsked 56 = .ok (.ireturn, 1) := by decide +kernel
theorem dX6_unlikeLeaves_0 : decode cX6_unlikeLeaves 0 = .ok (.iconst 0, 1) := by decide +kernel
theorem dX6_unlikeLeaves_1 : decode cX6_unlikeLeaves 1 = .ok (.istore_n 1, 1) := by decide +kernel
theorem dX6_unlikeLeaves_2 : decode cX6_unlikeLeaves 2 = .ok (.bipush 8, 2) := by decide +kernel
theorem dX6_unlikeLeaves_4 : decode cX6_unlikeLeaves 4 = .ok (.istore_n 2, 1) := by decide +kernel
theorem dX6_unlikeLeaves_5 : decode cX6_unlikeLeaves 5 = .ok (.iload_n 2, 1) := by decide +kernel
theorem dX6_unlikeLeaves_6 : decode cX6_unlikeLeaves 6 = .ok (.bipush 16, 2) := by decide +kernel
theorem dX6_unlikeLeaves_8 : decode cX6_unlikeLeaves 8 = .ok (.if_icmp .ge 27, 3) := by decide +kernel
theorem dX6_unlikeLeaves_11 : decode cX6_unlikeLeaves 11 = .ok (.aload_n 0, 1) := by decide +kernel
theorem dX6_unlikeLeaves_12 : decode cX6_unlikeLeaves 12 = .ok (.getfield 32, 3) := by decide +kernel
theorem dX6_unlikeLeaves_15 : decode cX6_unlikeLeaves 15 = .ok (.iload_n 2, 1) := by decide +kernel
theorem dX6_unlikeLeaves_16 : decode cX6_unlikeLeaves 16 = .ok (.iaload, 1) := by decide +kernel
theorem dX6_unlikeLeaves_17 : decode cX6_unlikeLeaves 17 = .ok (.aload_n 0, 1) := by decide +kernel
theorem dX6_unlikeLeaves_18 : decode cX6_unlikeLeaves 18 = .ok (.getfield 35, 3) := by decide +kernel
theorem dX6_unlikeLeaves_21 : decode cX6_unlikeLeaves 21 = .ok (.iload_n 2, 1) := by decide +kernel
theorem dX6_unlikeLeaves_22 : decode cX6_unlikeLeaves 22 = .ok (.iaload, 1) := by decide +kernel
theorem dX6_unlikeLeaves_23 : decode cX6_unlikeLeaves 23 = .ok (.if_icmp .eq 6, 3) := by decide +kernel
theorem dX6_unlikeLeaves_26 : decode cX6_unlikeLeaves 26 = .ok (.iinc 1 1, 3) := by decide +kernel
theorem dX6_unlikeLeaves_29 : decode cX6_unlikeLeaves 29 = .ok (.iinc 2 1, 3) := by decide +kernel
theorem dX6_unlikeLeaves_32 : decode cX6_unlikeLeaves 32 = .ok (.goto (-27), 3) := by decide +kernel
theorem dX6_unlikeLeaves_35 : decode cX6_unlikeLeaves 35 = .ok (.iload_n 1, 1) := by decide +kernel
theorem dX6_unlikeLeaves_36 : decode cX6_unlikeLeaves 36 = .ok (.ireturn, 1) := by decide +kernel
theorem dX6_copiesOn_0 : decode cX6_copiesOn 0 = .ok (.aload_n 0, 1) := by decide +kernel
theorem dX6_copiesOn_1 : decode cX6_copiesOn 1 = .ok (.getfield 11, 3) := by decide +kernel
theorem dX6_copiesOn_4 : decode cX6_copiesOn 4 = .ok (.iload_n 1, 1) := by decide +kernel
theorem dX6_copiesOn_5 : decode cX6_copiesOn 5 = .ok (.aaload, 1) := by decide +kernel
theorem dX6_copiesOn_6 : decode cX6_copiesOn 6 = .ok (.invokestatic 141, 3) := by decide +kernel
theorem dX6_copiesOn_9 : decode cX6_copiesOn 9 = .ok (.ireturn, 1) := by decide +kernel
theorem dX6_keptBy_0 : decode cX6_keptBy 0 = .ok (.aload_n 0, 1) := by decide +kernel
theorem dX6_keptBy_1 : decode cX6_keptBy 1 = .ok (.getfield 16, 3) := by decide +kernel
theorem dX6_keptBy_4 : decode cX6_keptBy 4 = .ok (.iload_n 1, 1) := by decide +kernel
theorem dX6_keptBy_5 : decode cX6_keptBy 5 = .ok (.aaload, 1) := by decide +kernel
theorem dX6_keptBy_6 : decode cX6_keptBy 6 = .ok (.invokestatic 141, 3) := by decide +kernel
theorem dX6_keptBy_9 : decode cX6_keptBy 9 = .ok (.ireturn, 1) := by decide +kernel
theorem dX6_allCopies_15 : decode cX6_allCopies 15 = .ok (.iload_n 1, 1) := by decide +kernel
theorem dX6_allCopies_16 : decode cX6_allCopies 16 = .ok (.aload_n 0, 1) := by decide +kernel
theorem dX6_allCopies_17 : decode cX6_allCopies 17 = .ok (.iload_n 2, 1) := by decide +kernel
theorem dX6_allCopies_18 : decode cX6_allCopies 18 = .ok (.invokevirtual 103, 3) := by decide +kernel
theorem dX6_allCopies_21 : decode cX6_allCopies 21 = .ok (.iadd, 1) := by decide +kernel
theorem dX6_allCopies_22 : decode cX6_allCopies 22 = .ok (.istore_n 1, 1) := by decide +kernel
theorem dX6_allCopies_23 : decode cX6_allCopies 23 = .ok (.iinc 2 1, 3) := by decide +kernel
theorem dX6_allCopies_26 : decode cX6_allCopies 26 = .ok (.goto (-22), 3) := by decide +kernel
theorem dX6_allKept_15 : decode cX6_allKept 15 = .ok (.iload_n 1, 1) := by decide +kernel
theorem dX6_allKept_16 : decode cX6_allKept 16 = .ok (.aload_n 0, 1) := by decide +kernel
theorem dX6_allKept_17 : decode cX6_allKept 17 = .ok (.iload_n 2, 1) := by decide +kernel
theorem dX6_allKept_18 : decode cX6_allKept 18 = .ok (.invokevirtual 145, 3) := by decide +kernel
theorem dX6_allKept_21 : decode cX6_allKept 21 = .ok (.iadd, 1) := by decide +kernel
theorem dX6_allKept_22 : decode cX6_allKept 22 = .ok (.istore_n 1, 1) := by decide +kernel
theorem dX6_allKept_23 : decode cX6_allKept 23 = .ok (.iinc 2 1, 3) := by decide +kernel
theorem dX6_allKept_26 : decode cX6_allKept 26 = .ok (.goto (-22), 3) := by decide +kernel
theorem dX6_filled_0 : decode cX6_filled 0 = .ok (.iconst 0, 1) := by decide +kernel
theorem dX6_filled_1 : decode cX6_filled 1 = .ok (.istore_n 1, 1) := by decide +kernel
theorem dX6_filled_2 : decode cX6_filled 2 = .ok (.aload_n 0, 1) := by decide +kernel
theorem dX6_filled_3 : decode cX6_filled 3 = .ok (.astore_n 2, 1) := by decide +kernel
theorem dX6_filled_4 : decode cX6_filled 4 = .ok (.aload_n 2, 1) := by decide +kernel
theorem dX6_filled_5 : decode cX6_filled 5 = .ok (.arraylength, 1) := by decide +kernel
theorem dX6_filled_6 : decode cX6_filled 6 = .ok (.istore_n 3, 1) := by decide +kernel
theorem dX6_filled_7 : decode cX6_filled 7 = .ok (.iconst 0, 1) := by decide +kernel
theorem dX6_filled_8 : decode cX6_filled 8 = .ok (.istore 4, 2) := by decide +kernel
theorem dX6_filled_10 : decode cX6_filled 10 = .ok (.iload 4, 2) := by decide +kernel
theorem dX6_filled_12 : decode cX6_filled 12 = .ok (.iload_n 3, 1) := by decide +kernel
theorem dX6_filled_13 : decode cX6_filled 13 = .ok (.if_icmp .ge 23, 3) := by decide +kernel
theorem dX6_filled_16 : decode cX6_filled 16 = .ok (.aload_n 2, 1) := by decide +kernel
theorem dX6_filled_17 : decode cX6_filled 17 = .ok (.iload 4, 2) := by decide +kernel
theorem dX6_filled_19 : decode cX6_filled 19 = .ok (.iaload, 1) := by decide +kernel
theorem dX6_filled_20 : decode cX6_filled 20 = .ok (.istore 5, 2) := by decide +kernel
theorem dX6_filled_22 : decode cX6_filled 22 = .ok (.iload 5, 2) := by decide +kernel
theorem dX6_filled_24 : decode cX6_filled 24 = .ok (.ifCond .le 6, 3) := by decide +kernel
theorem dX6_filled_27 : decode cX6_filled 27 = .ok (.iinc 1 1, 3) := by decide +kernel
theorem dX6_filled_30 : decode cX6_filled 30 = .ok (.iinc 4 1, 3) := by decide +kernel
theorem dX6_filled_33 : decode cX6_filled 33 = .ok (.goto (-23), 3) := by decide +kernel
theorem dX6_filled_36 : decode cX6_filled 36 = .ok (.iload_n 1, 1) := by decide +kernel
theorem dX6_filled_37 : decode cX6_filled 37 = .ok (.ireturn, 1) := by decide +kernel
theorem dX7_isRow_0 : decode cX7_isRow 0 = .ok (.aload_n 0, 1) := by decide +kernel
theorem dX7_isRow_1 : decode cX7_isRow 1 = .ok (.getfield 15, 3) := by decide +kernel
theorem dX7_isRow_4 : decode cX7_isRow 4 = .ok (.iload_n 1, 1) := by decide +kernel
theorem dX7_isRow_5 : decode cX7_isRow 5 = .ok (.iaload, 1) := by decide +kernel
theorem dX7_isRow_6 : decode cX7_isRow 6 = .ok (.iconst (-1), 1) := by decide +kernel
theorem dX7_isRow_7 : decode cX7_isRow 7 = .ok (.if_icmp .eq 7, 3) := by decide +kernel
theorem dX7_isRow_10 : decode cX7_isRow 10 = .ok (.iconst 1, 1) := by decide +kernel
theorem dX7_isRow_11 : decode cX7_isRow 11 = .ok (.goto 4, 3) := by decide +kernel
theorem dX7_isRow_14 : decode cX7_isRow 14 = .ok (.iconst 0, 1) := by decide +kernel
theorem dX7_isRow_15 : decode cX7_isRow 15 = .ok (.ireturn, 1) := by decide +kernel
theorem dX7_isEmpty_24 : decode cX7_isEmpty 24 = .ok (.iconst 0, 1) := by decide +kernel
theorem dX7_refusalAt_11 : decode cX7_refusalAt 11 = .ok (.aload_n 0, 1) := by decide +kernel
theorem dX7_refusalAt_12 : decode cX7_refusalAt 12 = .ok (.iload_n 1, 1) := by decide +kernel
theorem dX7_refusalAt_13 : decode cX7_refusalAt 13 = .ok (.invokevirtual 39, 3) := by decide +kernel
theorem dX7_refusalAt_16 : decode cX7_refusalAt 16 = .ok (.ifCond .ne 6, 3) := by decide +kernel
theorem dX7_refusalAt_19 : decode cX7_refusalAt 19 = .ok (.bipush (-12), 2) := by decide +kernel
theorem dX7_refusalAt_21 : decode cX7_refusalAt 21 = .ok (.ireturn, 1) := by decide +kernel
theorem dX7_refusalAt_22 : decode cX7_refusalAt 22 = .ok (.iload_n 2, 1) := by decide +kernel
theorem dX7_refusalAt_23 : decode cX7_refusalAt 23 = .ok (.ifCond .lt 17, 3) := by decide +kernel
theorem dX7_refusalAt_26 : decode cX7_refusalAt 26 = .ok (.iload_n 2, 1) := by decide +kernel
theorem dX7_refusalAt_27 : decode cX7_refusalAt 27 = .ok (.aload_n 0, 1) := by decide +kernel
theorem dX7_refusalAt_28 : decode cX7_refusalAt 28 = .ok (.getfield 18, 3) := by decide +kernel
theorem dX7_refusalAt_31 : decode cX7_refusalAt 31 = .ok (.iload_n 1, 1) := by decide +kernel
theorem dX7_refusalAt_32 : decode cX7_refusalAt 32 = .ok (.iaload, 1) := by decide +kernel
theorem dX7_refusalAt_33 : decode cX7_refusalAt 33 = .ok (.if_icmp .ge 7, 3) := by decide +kernel
theorem dX7_refusalAt_36 : decode cX7_refusalAt 36 = .ok (.iconst 0, 1) := by decide +kernel
theorem dX7_refusalAt_37 : decode cX7_refusalAt 37 = .ok (.goto 5, 3) := by decide +kernel
theorem dX7_refusalAt_40 : decode cX7_refusalAt 40 = .ok (.bipush (-13), 2) := by decide +kernel
theorem dX7_refusalAt_42 : decode cX7_refusalAt 42 = .ok (.ireturn, 1) := by decide +kernel
theorem dX7_spans_0 : decode cX7_spans 0 = .ok (.iload_n 2, 1) := by decide +kernel
theorem dX7_spans_1 : decode cX7_spans 1 = .ok (.ifCond .lt 33, 3) := by decide +kernel
theorem dX7_spans_4 : decode cX7_spans 4 = .ok (.iload_n 3, 1) := by decide +kernel
theorem dX7_spans_5 : decode cX7_spans 5 = .ok (.ifCond .lt 29, 3) := by decide +kernel
theorem dX7_spans_8 : decode cX7_spans 8 = .ok (.iload_n 2, 1) := by decide +kernel
theorem dX7_spans_9 : decode cX7_spans 9 = .ok (.aload_n 0, 1) := by decide +kernel
theorem dX7_spans_10 : decode cX7_spans 10 = .ok (.getfield 18, 3) := by decide +kernel
theorem dX7_spans_13 : decode cX7_spans 13 = .ok (.iload_n 1, 1) := by decide +kernel
theorem dX7_spans_14 : decode cX7_spans 14 = .ok (.iaload, 1) := by decide +kernel
theorem dX7_spans_15 : decode cX7_spans 15 = .ok (.if_icmp .gt 19, 3) := by decide +kernel
theorem dX7_spans_18 : decode cX7_spans 18 = .ok (.iload_n 3, 1) := by decide +kernel
theorem dX7_spans_19 : decode cX7_spans 19 = .ok (.aload_n 0, 1) := by decide +kernel
theorem dX7_spans_20 : decode cX7_spans 20 = .ok (.getfield 18, 3) := by decide +kernel
theorem dX7_spans_23 : decode cX7_spans 23 = .ok (.iload_n 1, 1) := by decide +kernel
theorem dX7_spans_24 : decode cX7_spans 24 = .ok (.iaload, 1) := by decide +kernel
theorem dX7_spans_25 : decode cX7_spans 25 = .ok (.iload_n 2, 1) := by decide +kernel
theorem dX7_spans_26 : decode cX7_spans 26 = .ok (.isub, 1) := by decide +kernel
theorem dX7_spans_27 : decode cX7_spans 27 = .ok (.if_icmp .gt 7, 3) := by decide +kernel
theorem dX7_spans_30 : decode cX7_spans 30 = .ok (.iconst 1, 1) := by decide +kernel
theorem dX7_spans_31 : decode cX7_spans 31 = .ok (.goto 4, 3) := by decide +kernel
theorem dX7_spans_34 : decode cX7_spans 34 = .ok (.iconst 0, 1) := by decide +kernel
theorem dX7_spans_35 : decode cX7_spans 35 = .ok (.ireturn, 1) := by decide +kernel
theorem dX7_lowest_0 : decode cX7_lowest 0 = .ok (.iload_n 0, 1) := by decide +kernel
theorem dX7_lowest_1 : decode cX7_lowest 1 = .ok (.tableswitch 61 0 4 #[35, 40, 45, 61, 49], 35) := by decide +kernel
theorem dX7_lowest_36 : decode cX7_lowest 36 = .ok (.lload_n 1, 1) := by decide +kernel
theorem dX7_lowest_37 : decode cX7_lowest 37 = .ok (.l2i, 1) := by decide +kernel
theorem dX7_lowest_38 : decode cX7_lowest 38 = .ok (.i2b, 1) := by decide +kernel
theorem dX7_lowest_39 : decode cX7_lowest 39 = .ok (.i2l, 1) := by decide +kernel
theorem dX7_lowest_40 : decode cX7_lowest 40 = .ok (.lreturn, 1) := by decide +kernel
theorem dX7_lowest_41 : decode cX7_lowest 41 = .ok (.lload_n 1, 1) := by decide +kernel
theorem dX7_lowest_42 : decode cX7_lowest 42 = .ok (.l2i, 1) := by decide +kernel
theorem dX7_lowest_43 : decode cX7_lowest 43 = .ok (.i2s, 1) := by decide +kernel
theorem dX7_lowest_44 : decode cX7_lowest 44 = .ok (.i2l, 1) := by decide +kernel
theorem dX7_lowest_45 : decode cX7_lowest 45 = .ok (.lreturn, 1) := by decide +kernel
theorem dX7_lowest_46 : decode cX7_lowest 46 = .ok (.lload_n 1, 1) := by decide +kernel
theorem dX7_lowest_47 : decode cX7_lowest 47 = .ok (.l2i, 1) := by decide +kernel
theorem dX7_lowest_48 : decode cX7_lowest 48 = .ok (.i2l, 1) := by decide +kernel
theorem dX7_lowest_49 : decode cX7_lowest 49 = .ok (.lreturn, 1) := by decide +kernel
theorem dX7_lowest_50 : decode cX7_lowest 50 = .ok (.lload_n 1, 1) := by decide +kernel
theorem dX7_lowest_51 : decode cX7_lowest 51 = .ok (.lconst 0, 1) := by decide +kernel
theorem dX7_lowest_52 : decode cX7_lowest 52 = .ok (.lcmp, 1) := by decide +kernel
theorem dX7_lowest_53 : decode cX7_lowest 53 = .ok (.ifCond .eq 7, 3) := by decide +kernel
theorem dX7_lowest_56 : decode cX7_lowest 56 = .ok (.lconst 1, 1) := by decide +kernel
theorem dX7_lowest_57 : decode cX7_lowest 57 = .ok (.goto 4, 3) := by decide +kernel
theorem dX7_lowest_60 : decode cX7_lowest 60 = .ok (.lconst 0, 1) := by decide +kernel
theorem dX7_lowest_61 : decode cX7_lowest 61 = .ok (.lreturn, 1) := by decide +kernel
theorem dX7_lowest_62 : decode cX7_lowest 62 = .ok (.lload_n 1, 1) := by decide +kernel
theorem dX7_lowest_63 : decode cX7_lowest 63 = .ok (.lreturn, 1) := by decide +kernel
theorem dX8_takeMembers_0 : decode cX8_takeMembers 0 = .ok (.aload_n 0, 1) := by decide +kernel
theorem dX8_takeMembers_1 : decode cX8_takeMembers 1 = .ok (.iload_n 1, 1) := by decide +kernel
theorem dX8_takeMembers_2 : decode cX8_takeMembers 2 = .ok (.putfield 9, 3) := by decide +kernel
theorem dX8_takeMembers_5 : decode cX8_takeMembers 5 = .ok (.iconst 0, 1) := by decide +kernel
theorem dX8_takeMembers_6 : decode cX8_takeMembers 6 = .ok (.istore_n 3, 1) := by decide +kernel
theorem dX8_takeMembers_7 : decode cX8_takeMembers 7 = .ok (.iload_n 3, 1) := by decide +kernel
theorem dX8_takeMembers_8 : decode cX8_takeMembers 8 = .ok (.bipush 12, 2) := by decide +kernel
theorem dX8_takeMembers_10 : decode cX8_takeMembers 10 = .ok (.if_icmp .ge 33, 3) := by decide +kernel
theorem dX8_takeMembers_13 : decode cX8_takeMembers 13 = .ok (.aload_n 0, 1) := by decide +kernel
theorem dX8_takeMembers_14 : decode cX8_takeMembers 14 = .ok (.getfield 37, 3) := by decide +kernel
theorem dX8_takeMembers_17 : decode cX8_takeMembers 17 = .ok (.iload_n 3, 1) := by decide +kernel
theorem dX8_takeMembers_18 : decode cX8_takeMembers 18 = .ok (.iload_n 1, 1) := by decide +kernel
theorem dX8_takeMembers_19 : decode cX8_takeMembers 19 = .ok (.iload_n 3, 1) := by decide +kernel
theorem dX8_takeMembers_20 : decode cX8_takeMembers 20 = .ok (.ishr, 1) := by decide +kernel
theorem dX8_takeMembers_21 : decode cX8_takeMembers 21 = .ok (.iconst 1, 1) := by decide +kernel
theorem dX8_takeMembers_22 : decode cX8_takeMembers 22 = .ok (.iand, 1) := by decide +kernel
theorem dX8_takeMembers_23 : decode cX8_takeMembers 23 = .ok (.iconst 1, 1) := by decide +kernel
theorem dX8_takeMembers_24 : decode cX8_takeMembers 24 = .ok (.if_icmp .ne 11, 3) := by decide +kernel
theorem dX8_takeMembers_27 : decode cX8_takeMembers 27 = .ok (.aload_n 2, 1) := by decide +kernel
theorem dX8_takeMembers_28 : decode cX8_takeMembers 28 = .ok (.iload_n 3, 1) := by decide +kernel
theorem dX8_takeMembers_29 : decode cX8_takeMembers 29 = .ok (.invokevirtual 55, 3) := by decide +kernel
theorem dX8_takeMembers_32 : decode cX8_takeMembers 32 = .ok (.goto 4, 3) := by decide +kernel
theorem dX8_takeMembers_35 : decode cX8_takeMembers 35 = .ok (.iconst 0, 1) := by decide +kernel
theorem dX8_takeMembers_36 : decode cX8_takeMembers 36 = .ok (.iastore, 1) := by decide +kernel
theorem dX8_takeMembers_37 : decode cX8_takeMembers 37 = .ok (.iinc 3 1, 3) := by decide +kernel
theorem dX8_takeMembers_40 : decode cX8_takeMembers 40 = .ok (.goto (-33), 3) := by decide +kernel
theorem dX8_takeMembers_43 : decode cX8_takeMembers 43 = .ok (.return_, 1) := by decide +kernel
theorem dX8_takeLaw_0 : decode cX8_takeLaw 0 = .ok (.aload_n 0, 1) := by decide +kernel
theorem dX8_takeLaw_1 : decode cX8_takeLaw 1 = .ok (.iconst 0, 1) := by decide +kernel
theorem dX8_takeLaw_2 : decode cX8_takeLaw 2 = .ok (.iload_n 2, 1) := by decide +kernel
theorem dX8_takeLaw_3 : decode cX8_takeLaw 3 = .ok (.aload_n 1, 1) := by decide +kernel
theorem dX8_takeLaw_4 : decode cX8_takeLaw 4 = .ok (.arraylength, 1) := by decide +kernel
theorem dX8_takeLaw_5 : decode cX8_takeLaw 5 = .ok (.invokestatic 61, 3) := by decide +kernel
theorem dX8_takeLaw_8 : decode cX8_takeLaw 8 = .ok (.bipush 80, 2) := by decide +kernel
theorem dX8_takeLaw_10 : decode cX8_takeLaw 10 = .ok (.invokestatic 61, 3) := by decide +kernel
theorem dX8_takeLaw_13 : decode cX8_takeLaw 13 = .ok (.invokestatic 67, 3) := by decide +kernel
theorem dX8_takeLaw_16 : decode cX8_takeLaw 16 = .ok (.putfield 30, 3) := by decide +kernel
theorem dX8_takeLaw_19 : decode cX8_takeLaw 19 = .ok (.aload_n 1, 1) := by decide +kernel
theorem dX8_takeLaw_20 : decode cX8_takeLaw 20 = .ok (.iconst 0, 1) := by decide +kernel
theorem dX8_takeLaw_21 : decode cX8_takeLaw 21 = .ok (.aload_n 0, 1) := by decide +kernel
theorem dX8_takeLaw_22 : decode cX8_takeLaw 22 = .ok (.getfield 44, 3) := by decide +kernel
theorem dX8_takeLaw_25 : decode cX8_takeLaw 25 = .ok (.iconst 0, 1) := by decide +kernel
theorem dX8_takeLaw_26 : decode cX8_takeLaw 26 = .ok (.aload_n 0, 1) := by decide +kernel
theorem dX8_takeLaw_27 : decode cX8_takeLaw 27 = .ok (.getfield 30, 3) := by decide +kernel
theorem dX8_takeLaw_30 : decode cX8_takeLaw 30 = .ok (.invokestatic 70, 3) := by decide +kernel
theorem dX8_takeLaw_33 : decode cX8_takeLaw 33 = .ok (.return_, 1) := by decide +kernel
theorem dX8_takeAll_0 : decode cX8_takeAll 0 = .ok (.aload_n 0, 1) := by decide +kernel
theorem dX8_takeAll_1 : decode cX8_takeAll 1 = .ok (.aload_n 1, 1) := by decide +kernel
theorem dX8_takeAll_2 : decode cX8_takeAll 2 = .ok (.getfield 9, 3) := by decide +kernel
theorem dX8_takeAll_5 : decode cX8_takeAll 5 = .ok (.putfield 9, 3) := by decide +kernel
theorem dX8_takeAll_8 : decode cX8_takeAll 8 = .ok (.aload_n 1, 1) := by decide +kernel
theorem dX8_takeAll_9 : decode cX8_takeAll 9 = .ok (.getfield 37, 3) := by decide +kernel
theorem dX8_takeAll_12 : decode cX8_takeAll 12 = .ok (.iconst 0, 1) := by decide +kernel
theorem dX8_takeAll_13 : decode cX8_takeAll 13 = .ok (.aload_n 0, 1) := by decide +kernel
theorem dX8_takeAll_14 : decode cX8_takeAll 14 = .ok (.getfield 37, 3) := by decide +kernel
theorem dX8_takeAll_17 : decode cX8_takeAll 17 = .ok (.iconst 0, 1) := by decide +kernel
theorem dX8_takeAll_18 : decode cX8_takeAll 18 = .ok (.bipush 12, 2) := by decide +kernel
theorem dX8_takeAll_20 : decode cX8_takeAll 20 = .ok (.invokestatic 70, 3) := by decide +kernel
theorem dX8_takeAll_23 : decode cX8_takeAll 23 = .ok (.aload_n 0, 1) := by decide +kernel
theorem dX8_takeAll_24 : decode cX8_takeAll 24 = .ok (.aload_n 1, 1) := by decide +kernel
theorem dX8_takeAll_25 : decode cX8_takeAll 25 = .ok (.getfield 44, 3) := by decide +kernel
theorem dX8_takeAll_28 : decode cX8_takeAll 28 = .ok (.aload_n 1, 1) := by decide +kernel
theorem dX8_takeAll_29 : decode cX8_takeAll 29 = .ok (.getfield 30, 3) := by decide +kernel
theorem dX8_takeAll_32 : decode cX8_takeAll 32 = .ok (.invokevirtual 76, 3) := by decide +kernel
theorem dX8_takeAll_35 : decode cX8_takeAll 35 = .ok (.aload_n 0, 1) := by decide +kernel
theorem dX8_takeAll_36 : decode cX8_takeAll 36 = .ok (.aload_n 1, 1) := by decide +kernel
theorem dX8_takeAll_37 : decode cX8_takeAll 37 = .ok (.getfield 18, 3) := by decide +kernel
theorem dX8_takeAll_40 : decode cX8_takeAll 40 = .ok (.putfield 18, 3) := by decide +kernel
theorem dX8_takeAll_43 : decode cX8_takeAll 43 = .ok (.aload_n 0, 1) := by decide +kernel
theorem dX8_takeAll_44 : decode cX8_takeAll 44 = .ok (.aload_n 1, 1) := by decide +kernel
theorem dX8_takeAll_45 : decode cX8_takeAll 45 = .ok (.getfield 21, 3) := by decide +kernel
theorem dX8_takeAll_48 : decode cX8_takeAll 48 = .ok (.putfield 21, 3) := by decide +kernel
theorem dX8_takeAll_51 : decode cX8_takeAll 51 = .ok (.aload_n 0, 1) := by decide +kernel
theorem dX8_takeAll_52 : decode cX8_takeAll 52 = .ok (.aload_n 1, 1) := by decide +kernel
theorem dX8_takeAll_53 : decode cX8_takeAll 53 = .ok (.getfield 24, 3) := by decide +kernel
theorem dX8_takeAll_56 : decode cX8_takeAll 56 = .ok (.putfield 24, 3) := by decide +kernel
theorem dX8_takeAll_59 : decode cX8_takeAll 59 = .ok (.return_, 1) := by decide +kernel
theorem dX8_seatAll_0 : decode cX8_seatAll 0 = .ok (.aload_n 0, 1) := by decide +kernel
theorem dX8_seatAll_1 : decode cX8_seatAll 1 = .ok (.iload_n 1, 1) := by decide +kernel
theorem dX8_seatAll_2 : decode cX8_seatAll 2 = .ok (.putfield 15, 3) := by decide +kernel
theorem dX8_seatAll_5 : decode cX8_seatAll 5 = .ok (.aload_n 0, 1) := by decide +kernel
theorem dX8_seatAll_6 : decode cX8_seatAll 6 = .ok (.iconst 0, 1) := by decide +kernel
theorem dX8_seatAll_7 : decode cX8_seatAll 7 = .ok (.putfield 27, 3) := by decide +kernel
theorem dX8_seatAll_10 : decode cX8_seatAll 10 = .ok (.aload_n 0, 1) := by decide +kernel
theorem dX8_seatAll_11 : decode cX8_seatAll 11 = .ok (.iconst 0, 1) := by decide +kernel
theorem dX8_seatAll_12 : decode cX8_seatAll 12 = .ok (.putfield 33, 3) := by decide +kernel
theorem dX8_seatAll_15 : decode cX8_seatAll 15 = .ok (.aload_n 0, 1) := by decide +kernel
theorem dX8_seatAll_16 : decode cX8_seatAll 16 = .ok (.getfield 48, 3) := by decide +kernel
theorem dX8_seatAll_19 : decode cX8_seatAll 19 = .ok (.iconst (-1), 1) := by decide +kernel
theorem dX8_seatAll_20 : decode cX8_seatAll 20 = .ok (.invokestatic 80, 3) := by decide +kernel
theorem dX8_seatAll_23 : decode cX8_seatAll 23 = .ok (.iconst 0, 1) := by decide +kernel
theorem dX8_seatAll_24 : decode cX8_seatAll 24 = .ok (.istore_n 2, 1) := by decide +kernel
theorem dX8_seatAll_25 : decode cX8_seatAll 25 = .ok (.iload_n 2, 1) := by decide +kernel
theorem dX8_seatAll_26 : decode cX8_seatAll 26 = .ok (.bipush 12, 2) := by decide +kernel
theorem dX8_seatAll_28 : decode cX8_seatAll 28 = .ok (.if_icmp .ge 65, 3) := by decide +kernel
theorem dX8_seatAll_31 : decode cX8_seatAll 31 = .ok (.iconst 0, 1) := by decide +kernel
theorem dX8_seatAll_32 : decode cX8_seatAll 32 = .ok (.istore_n 3, 1) := by decide +kernel
theorem dX8_seatAll_33 : decode cX8_seatAll 33 = .ok (.iload_n 3, 1) := by decide +kernel
theorem dX8_seatAll_34 : decode cX8_seatAll 34 = .ok (.iconst 4, 1) := by decide +kernel
theorem dX8_seatAll_35 : decode cX8_seatAll 35 = .ok (.aload_n 0, 1) := by decide +kernel
theorem dX8_seatAll_36 : decode cX8_seatAll 36 = .ok (.getfield 37, 3) := by decide +kernel
theorem dX8_seatAll_39 : decode cX8_seatAll 39 = .ok (.iload_n 2, 1) := by decide +kernel
theorem dX8_seatAll_40 : decode cX8_seatAll 40 = .ok (.iaload, 1) := by decide +kernel
theorem dX8_seatAll_41 : decode cX8_seatAll 41 = .ok (.imul, 1) := by decide +kernel
theorem dX8_seatAll_42 : decode cX8_seatAll 42 = .ok (.if_icmp .ge 45, 3) := by decide +kernel
theorem dX8_seatAll_45 : decode cX8_seatAll 45 = .ok (.aload_n 0, 1) := by decide +kernel
theorem dX8_seatAll_46 : decode cX8_seatAll 46 = .ok (.getfield 48, 3) := by decide +kernel
theorem dX8_seatAll_49 : decode cX8_seatAll 49 = .ok (.aload_n 0, 1) := by decide +kernel
theorem dX8_seatAll_50 : decode cX8_seatAll 50 = .ok (.iload_n 2, 1) := by decide +kernel
theorem dX8_seatAll_51 : decode cX8_seatAll 51 = .ok (.sipush 7919, 3) := by decide +kernel
theorem dX8_seatAll_54 : decode cX8_seatAll 54 = .ok (.imul, 1) := by decide +kernel
theorem dX8_seatAll_55 : decode cX8_seatAll 55 = .ok (.iload_n 3, 1) := by decide +kernel
theorem dX8_seatAll_56 : decode cX8_seatAll 56 = .ok (.ldc 86, 2) := by decide +kernel
theorem dX8_seatAll_58 : decode cX8_seatAll 58 = .ok (.imul, 1) := by decide +kernel
theorem dX8_seatAll_59 : decode cX8_seatAll 59 = .ok (.iadd, 1) := by decide +kernel
theorem dX8_seatAll_60 : decode cX8_seatAll 60 = .ok (.iload_n 1, 1) := by decide +kernel
theorem dX8_seatAll_61 : decode cX8_seatAll 61 = .ok (.iadd, 1) := by decide +kernel
theorem dX8_seatAll_62 : decode cX8_seatAll 62 = .ok (.invokestatic 87, 3) := by decide +kernel
theorem dX8_seatAll_65 : decode cX8_seatAll 65 = .ok (.invokevirtual 90, 3) := by decide +kernel
theorem dX8_seatAll_68 : decode cX8_seatAll 68 = .ok (.iload_n 2, 1) := by decide +kernel
theorem dX8_seatAll_69 : decode cX8_seatAll 69 = .ok (.i2b, 1) := by decide +kernel
theorem dX8_seatAll_70 : decode cX8_seatAll 70 = .ok (.bastore, 1) := by decide +kernel
theorem dX8_seatAll_71 : decode cX8_seatAll 71 = .ok (.aload_n 0, 1) := by decide +kernel
theorem dX8_seatAll_72 : decode cX8_seatAll 72 = .ok (.dup, 1) := by decide +kernel
theorem dX8_seatAll_73 : decode cX8_seatAll 73 = .ok (.getfield 27, 3) := by decide +kernel
theorem dX8_seatAll_76 : decode cX8_seatAll 76 = .ok (.iconst 1, 1) := by decide +kernel
theorem dX8_seatAll_77 : decode cX8_seatAll 77 = .ok (.iadd, 1) := by decide +kernel
theorem dX8_seatAll_78 : decode cX8_seatAll 78 = .ok (.putfield 27, 3) := by decide +kernel
theorem dX8_seatAll_81 : decode cX8_seatAll 81 = .ok (.iinc 3 1, 3) := by decide +kernel
theorem dX8_seatAll_84 : decode cX8_seatAll 84 = .ok (.goto (-51), 3) := by decide +kernel
theorem dX8_seatAll_87 : decode cX8_seatAll 87 = .ok (.iinc 2 1, 3) := by decide +kernel
theorem dX8_seatAll_90 : decode cX8_seatAll 90 = .ok (.goto (-65), 3) := by decide +kernel
theorem dX8_seatAll_93 : decode cX8_seatAll 93 = .ok (.aload_n 0, 1) := by decide +kernel
theorem dX8_seatAll_94 : decode cX8_seatAll 94 = .ok (.invokevirtual 93, 3) := by decide +kernel
theorem dX8_seatAll_97 : decode cX8_seatAll 97 = .ok (.return_, 1) := by decide +kernel
theorem dX8_freeFrom_0 : decode cX8_freeFrom 0 = .ok (.iload_n 1, 1) := by decide +kernel
theorem dX8_freeFrom_1 : decode cX8_freeFrom 1 = .ok (.istore_n 2, 1) := by decide +kernel
theorem dX8_freeFrom_2 : decode cX8_freeFrom 2 = .ok (.iconst 0, 1) := by decide +kernel
theorem dX8_freeFrom_3 : decode cX8_freeFrom 3 = .ok (.istore_n 3, 1) := by decide +kernel
theorem dX8_freeFrom_4 : decode cX8_freeFrom 4 = .ok (.iload_n 3, 1) := by decide +kernel
theorem dX8_freeFrom_5 : decode cX8_freeFrom 5 = .ok (.sipush 1000, 3) := by decide +kernel
theorem dX8_freeFrom_8 : decode cX8_freeFrom 8 = .ok (.if_icmp .ge 24, 3) := by decide +kernel
theorem dX8_freeFrom_11 : decode cX8_freeFrom 11 = .ok (.aload_n 0, 1) := by decide +kernel
theorem dX8_freeFrom_12 : decode cX8_freeFrom 12 = .ok (.getfield 48, 3) := by decide +kernel
theorem dX8_freeFrom_15 : decode cX8_freeFrom 15 = .ok (.iload_n 2, 1) := by decide +kernel
theorem dX8_freeFrom_16 : decode cX8_freeFrom 16 = .ok (.baload, 1) := by decide +kernel
theorem dX8_freeFrom_17 : decode cX8_freeFrom 17 = .ok (.iconst (-1), 1) := by decide +kernel
theorem dX8_freeFrom_18 : decode cX8_freeFrom 18 = .ok (.if_icmp .eq 14, 3) := by decide +kernel
theorem dX8_freeFrom_21 : decode cX8_freeFrom 21 = .ok (.iload_n 2, 1) := by decide +kernel
theorem dX8_freeFrom_22 : decode cX8_freeFrom 22 = .ok (.invokestatic 96, 3) := by decide +kernel
theorem dX8_freeFrom_25 : decode cX8_freeFrom 25 = .ok (.istore_n 2, 1) := by decide +kernel
theorem dX8_freeFrom_26 : decode cX8_freeFrom 26 = .ok (.iinc 3 1, 3) := by decide +kernel
theorem dX8_freeFrom_29 : decode cX8_freeFrom 29 = .ok (.goto (-25), 3) := by decide +kernel
theorem dX8_freeFrom_32 : decode cX8_freeFrom 32 = .ok (.iload_n 2, 1) := by decide +kernel
theorem dX8_freeFrom_33 : decode cX8_freeFrom 33 = .ok (.ireturn, 1) := by decide +kernel
theorem dX8_linkPlaces_0 : decode cX8_linkPlaces 0 = .ok (.iconst 0, 1) := by decide +kernel
theorem dX8_linkPlaces_1 : decode cX8_linkPlaces 1 = .ok (.istore_n 1, 1) := by decide +kernel
theorem dX8_linkPlaces_2 : decode cX8_linkPlaces 2 = .ok (.sipush 1999, 3) := by decide +kernel
theorem dX8_linkPlaces_5 : decode cX8_linkPlaces 5 = .ok (.istore_n 2, 1) := by decide +kernel
theorem dX8_linkPlaces_6 : decode cX8_linkPlaces 6 = .ok (.iload_n 2, 1) := by decide +kernel
theorem dX8_linkPlaces_7 : decode cX8_linkPlaces 7 = .ok (.ifCond .lt 35, 3) := by decide +kernel
theorem dX8_linkPlaces_10 : decode cX8_linkPlaces 10 = .ok (.iload_n 2, 1) := by decide +kernel
theorem dX8_linkPlaces_11 : decode cX8_linkPlaces 11 = .ok (.sipush 1000, 3) := by decide +kernel
theorem dX8_linkPlaces_14 : decode cX8_linkPlaces 14 = .ok (.irem, 1) := by decide +kernel
theorem dX8_linkPlaces_15 : decode cX8_linkPlaces 15 = .ok (.istore_n 3, 1) := by decide +kernel
theorem dX8_linkPlaces_16 : decode cX8_linkPlaces 16 = .ok (.aload_n 0, 1) := by decide +kernel
theorem dX8_linkPlaces_17 : decode cX8_linkPlaces 17 = .ok (.getfield 48, 3) := by decide +kernel
theorem dX8_linkPlaces_20 : decode cX8_linkPlaces 20 = .ok (.iload_n 3, 1) := by decide +kernel
theorem dX8_linkPlaces_21 : decode cX8_linkPlaces 21 = .ok (.baload, 1) := by decide +kernel
theorem dX8_linkPlaces_22 : decode cX8_linkPlaces 22 = .ok (.iconst (-1), 1) := by decide +kernel
theorem dX8_linkPlaces_23 : decode cX8_linkPlaces 23 = .ok (.if_icmp .eq 5, 3) := by decide +kernel
theorem dX8_linkPlaces_26 : decode cX8_linkPlaces 26 = .ok (.iload_n 3, 1) := by decide +kernel
theorem dX8_linkPlaces_27 : decode cX8_linkPlaces 27 = .ok (.istore_n 1, 1) := by decide +kernel
theorem dX8_linkPlaces_28 : decode cX8_linkPlaces 28 = .ok (.aload_n 0, 1) := by decide +kernel
theorem dX8_linkPlaces_29 : decode cX8_linkPlaces 29 = .ok (.getfield 51, 3) := by decide +kernel
theorem dX8_linkPlaces_32 : decode cX8_linkPlaces 32 = .ok (.iload_n 3, 1) := by decide +kernel
theorem dX8_linkPlaces_33 : decode cX8_linkPlaces 33 = .ok (.iload_n 1, 1) := by decide +kernel
theorem dX8_linkPlaces_34 : decode cX8_linkPlaces 34 = .ok (.i2s, 1) := by decide +kernel
theorem dX8_linkPlaces_35 : decode cX8_linkPlaces 35 = .ok (.sastore, 1) := by decide +kernel
theorem dX8_linkPlaces_36 : decode cX8_linkPlaces 36 = .ok (.iinc 2 (-1), 3) := by decide +kernel
theorem dX8_linkPlaces_39 : decode cX8_linkPlaces 39 = .ok (.goto (-33), 3) := by decide +kernel
theorem dX8_linkPlaces_42 : decode cX8_linkPlaces 42 = .ok (.return_, 1) := by decide +kernel
theorem dX8_sumOf_0 : decode cX8_sumOf 0 = .ok (.iload_n 2, 1) := by decide +kernel
theorem dX8_sumOf_1 : decode cX8_sumOf 1 = .ok (.sipush 7919, 3) := by decide +kernel
theorem dX8_sumOf_4 : decode cX8_sumOf 4 = .ok (.imul, 1) := by decide +kernel
theorem dX8_sumOf_5 : decode cX8_sumOf 5 = .ok (.iload_n 1, 1) := by decide +kernel
theorem dX8_sumOf_6 : decode cX8_sumOf 6 = .ok (.ldc 86, 2) := by decide +kernel
theorem dX8_sumOf_8 : decode cX8_sumOf 8 = .ok (.imul, 1) := by decide +kernel
theorem dX8_sumOf_9 : decode cX8_sumOf 9 = .ok (.iadd, 1) := by decide +kernel
theorem dX8_sumOf_10 : decode cX8_sumOf 10 = .ok (.aload_n 0, 1) := by decide +kernel
theorem dX8_sumOf_11 : decode cX8_sumOf 11 = .ok (.getfield 15, 3) := by decide +kernel
theorem dX8_sumOf_14 : decode cX8_sumOf 14 = .ok (.iadd, 1) := by decide +kernel
theorem dX8_sumOf_15 : decode cX8_sumOf 15 = .ok (.invokestatic 87, 3) := by decide +kernel
theorem dX8_sumOf_18 : decode cX8_sumOf 18 = .ok (.aload_n 0, 1) := by decide +kernel
theorem dX8_sumOf_19 : decode cX8_sumOf 19 = .ok (.getfield 37, 3) := by decide +kernel
theorem dX8_sumOf_22 : decode cX8_sumOf 22 = .ok (.iload_n 1, 1) := by decide +kernel
theorem dX8_sumOf_23 : decode cX8_sumOf 23 = .ok (.iaload, 1) := by decide +kernel
theorem dX8_sumOf_24 : decode cX8_sumOf 24 = .ok (.imul, 1) := by decide +kernel
theorem dX8_sumOf_25 : decode cX8_sumOf 25 = .ok (.ireturn, 1) := by decide +kernel
theorem dX8_firstFor_0 : decode cX8_firstFor 0 = .ok (.aload_n 0, 1) := by decide +kernel
theorem dX8_firstFor_1 : decode cX8_firstFor 1 = .ok (.getfield 24, 3) := by decide +kernel
theorem dX8_firstFor_4 : decode cX8_firstFor 4 = .ok (.iconst 1, 1) := by decide +kernel
theorem dX8_firstFor_5 : decode cX8_firstFor 5 = .ok (.if_icmp .eq 15, 3) := by decide +kernel
theorem dX8_firstFor_8 : decode cX8_firstFor 8 = .ok (.aload_n 0, 1) := by decide +kernel
theorem dX8_firstFor_9 : decode cX8_firstFor 9 = .ok (.getfield 48, 3) := by decide +kernel
theorem dX8_firstFor_12 : decode cX8_firstFor 12 = .ok (.aload_n 0, 1) := by decide +kernel
theorem dX8_firstFor_13 : decode cX8_firstFor 13 = .ok (.getfield 51, 3) := by decide +kernel
theorem dX8_firstFor_16 : decode cX8_firstFor 16 = .ok (.iload_n 1, 1) := by decide +kernel
theorem dX8_firstFor_17 : decode cX8_firstFor 17 = .ok (.saload, 1) := by decide +kernel
theorem dX8_firstFor_18 : decode cX8_firstFor 18 = .ok (.baload, 1) := by decide +kernel
theorem dX8_firstFor_19 : decode cX8_firstFor 19 = .ok (.ireturn, 1) := by decide +kernel
theorem dX8_firstFor_20 : decode cX8_firstFor 20 = .ok (.iconst (-1), 1) := by decide +kernel
theorem dX8_firstFor_21 : decode cX8_firstFor 21 = .ok (.istore_n 2, 1) := by decide +kernel
theorem dX8_firstFor_22 : decode cX8_firstFor 22 = .ok (.iconst (-1), 1) := by decide +kernel
theorem dX8_firstFor_23 : decode cX8_firstFor 23 = .ok (.istore_n 3, 1) := by decide +kernel
theorem dX8_firstFor_24 : decode cX8_firstFor 24 = .ok (.iconst 0, 1) := by decide +kernel
theorem dX8_firstFor_25 : decode cX8_firstFor 25 = .ok (.istore 4, 2) := by decide +kernel
theorem dX8_firstFor_27 : decode cX8_firstFor 27 = .ok (.iload 4, 2) := by decide +kernel
theorem dX8_firstFor_29 : decode cX8_firstFor 29 = .ok (.bipush 12, 2) := by decide +kernel
theorem dX8_firstFor_31 : decode cX8_firstFor 31 = .ok (.if_icmp .ge 45, 3) := by decide +kernel
theorem dX8_firstFor_34 : decode cX8_firstFor 34 = .ok (.aload_n 0, 1) := by decide +kernel
theorem dX8_firstFor_35 : decode cX8_firstFor 35 = .ok (.getfield 9, 3) := by decide +kernel
theorem dX8_firstFor_38 : decode cX8_firstFor 38 = .ok (.iload 4, 2) := by decide +kernel
theorem dX8_firstFor_40 : decode cX8_firstFor 40 = .ok (.ishr, 1) := by decide +kernel
theorem dX8_firstFor_41 : decode cX8_firstFor 41 = .ok (.iconst 1, 1) := by decide +kernel
theorem dX8_firstFor_42 : decode cX8_firstFor 42 = .ok (.iand, 1) := by decide +kernel
theorem dX8_firstFor_43 : decode cX8_firstFor 43 = .ok (.ifCond .ne 6, 3) := by decide +kernel
theorem dX8_firstFor_46 : decode cX8_firstFor 46 = .ok (.goto 24, 3) := by decide +kernel
theorem dX8_firstFor_49 : decode cX8_firstFor 49 = .ok (.aload_n 0, 1) := by decide +kernel
theorem dX8_firstFor_50 : decode cX8_firstFor 50 = .ok (.iload 4, 2) := by decide +kernel
theorem dX8_firstFor_52 : decode cX8_firstFor 52 = .ok (.iload_n 1, 1) := by decide +kernel
theorem dX8_firstFor_53 : decode cX8_firstFor 53 = .ok (.invokevirtual 99, 3) := by decide +kernel
theorem dX8_firstFor_56 : decode cX8_firstFor 56 = .ok (.istore 5, 2) := by decide +kernel
theorem dX8_firstFor_58 : decode cX8_firstFor 58 = .ok (.iload 5, 2) := by decide +kernel
theorem dX8_firstFor_60 : decode cX8_firstFor 60 = .ok (.iload_n 3, 1) := by decide +kernel
theorem dX8_firstFor_61 : decode cX8_firstFor 61 = .ok (.if_icmp .le 9, 3) := by decide +kernel
theorem dX8_firstFor_64 : decode cX8_firstFor 64 = .ok (.iload 5, 2) := by decide +kernel
theorem dX8_firstFor_66 : decode cX8_firstFor 66 = .ok (.istore_n 3, 1) := by decide +kernel
theorem dX8_firstFor_67 : decode cX8_firstFor 67 = .ok (.iload 4, 2) := by decide +kernel
theorem dX8_firstFor_69 : decode cX8_firstFor 69 = .ok (.istore_n 2, 1) := by decide +kernel
theorem dX8_firstFor_70 : decode cX8_firstFor 70 = .ok (.iinc 4 1, 3) := by decide +kernel
theorem dX8_firstFor_73 : decode cX8_firstFor 73 = .ok (.goto (-46), 3) := by decide +kernel
theorem dX8_firstFor_76 : decode cX8_firstFor 76 = .ok (.iload_n 2, 1) := by decide +kernel
theorem dX8_firstFor_77 : decode cX8_firstFor 77 = .ok (.ireturn, 1) := by decide +kernel
theorem dX8_countOdds_0 : decode cX8_countOdds 0 = .ok (.aload_n 0, 1) := by decide +kernel
theorem dX8_countOdds_1 : decode cX8_countOdds 1 = .ok (.getfield 33, 3) := by decide +kernel
theorem dX8_countOdds_4 : decode cX8_countOdds 4 = .ok (.ifCond .eq 4, 3) := by decide +kernel
theorem dX8_countOdds_7 : decode cX8_countOdds 7 = .ok (.return_, 1) := by decide +kernel
theorem dX8_countOdds_8 : decode cX8_countOdds 8 = .ok (.aload_n 0, 1) := by decide +kernel
theorem dX8_countOdds_9 : decode cX8_countOdds 9 = .ok (.getfield 41, 3) := by decide +kernel
theorem dX8_countOdds_12 : decode cX8_countOdds 12 = .ok (.iconst 0, 1) := by decide +kernel
theorem dX8_countOdds_13 : decode cX8_countOdds 13 = .ok (.invokestatic 102, 3) := by decide +kernel
theorem dX8_countOdds_16 : decode cX8_countOdds 16 = .ok (.iconst 0, 1) := by decide +kernel
theorem dX8_countOdds_17 : decode cX8_countOdds 17 = .ok (.istore_n 1, 1) := by decide +kernel
theorem dX8_countOdds_18 : decode cX8_countOdds 18 = .ok (.iload_n 1, 1) := by decide +kernel
theorem dX8_countOdds_19 : decode cX8_countOdds 19 = .ok (.sipush 1000, 3) := by decide +kernel
theorem dX8_countOdds_22 : decode cX8_countOdds 22 = .ok (.if_icmp .ge 35, 3) := by decide +kernel
theorem dX8_countOdds_25 : decode cX8_countOdds 25 = .ok (.aload_n 0, 1) := by decide +kernel
theorem dX8_countOdds_26 : decode cX8_countOdds 26 = .ok (.iload_n 1, 1) := by decide +kernel
theorem dX8_countOdds_27 : decode cX8_countOdds 27 = .ok (.invokevirtual 105, 3) := by decide +kernel
theorem dX8_countOdds_30 : decode cX8_countOdds 30 = .ok (.istore_n 2, 1) := by decide +kernel
theorem dX8_countOdds_31 : decode cX8_countOdds 31 = .ok (.iload_n 2, 1) := by decide +kernel
theorem dX8_countOdds_32 : decode cX8_countOdds 32 = .ok (.ifCond .lt 19, 3) := by decide +kernel
theorem dX8_countOdds_35 : decode cX8_countOdds 35 = .ok (.iload_n 2, 1) := by decide +kernel
theorem dX8_countOdds_36 : decode cX8_countOdds 36 = .ok (.bipush 12, 2) := by decide +kernel
theorem dX8_countOdds_38 : decode cX8_countOdds 38 = .ok (.if_icmp .ge 13, 3) := by decide +kernel
theorem dX8_countOdds_41 : decode cX8_countOdds 41 = .ok (.aload_n 0, 1) := by decide +kernel
theorem dX8_countOdds_42 : decode cX8_countOdds 42 = .ok (.getfield 41, 3) := by decide +kernel
theorem dX8_countOdds_45 : decode cX8_countOdds 45 = .ok (.iload_n 2, 1) := by decide +kernel
theorem dX8_countOdds_46 : decode cX8_countOdds 46 = .ok (.dup2, 1) := by decide +kernel
theorem dX8_countOdds_47 : decode cX8_countOdds 47 = .ok (.iaload, 1) := by decide +kernel
theorem dX8_countOdds_48 : decode cX8_countOdds 48 = .ok (.iconst 1, 1) := by decide +kernel
theorem dX8_countOdds_49 : decode cX8_countOdds 49 = .ok (.iadd, 1) := by decide +kernel
theorem dX8_countOdds_50 : decode cX8_countOdds 50 = .ok (.iastore, 1) := by decide +kernel
theorem dX8_countOdds_51 : decode cX8_countOdds 51 = .ok (.iinc 1 1, 3) := by decide +kernel
theorem dX8_countOdds_54 : decode cX8_countOdds 54 = .ok (.goto (-36), 3) := by decide +kernel
theorem dX8_countOdds_57 : decode cX8_countOdds 57 = .ok (.aload_n 0, 1) := by decide +kernel
theorem dX8_countOdds_58 : decode cX8_countOdds 58 = .ok (.iconst 1, 1) := by decide +kernel
theorem dX8_countOdds_59 : decode cX8_countOdds 59 = .ok (.putfield 33, 3) := by decide +kernel
theorem dX8_countOdds_62 : decode cX8_countOdds 62 = .ok (.return_, 1) := by decide +kernel
theorem dX8_unevenness_0 : decode cX8_unevenness 0 = .ok (.aload_n 0, 1) := by decide +kernel
theorem dX8_unevenness_1 : decode cX8_unevenness 1 = .ok (.invokevirtual 108, 3) := by decide +kernel
theorem dX8_unevenness_4 : decode cX8_unevenness 4 = .ok (.sipush 1000, 3) := by decide +kernel
theorem dX8_unevenness_7 : decode cX8_unevenness 7 = .ok (.istore_n 1, 1) := by decide +kernel
theorem dX8_unevenness_8 : decode cX8_unevenness 8 = .ok (.iconst 0, 1) := by decide +kernel
theorem dX8_unevenness_9 : decode cX8_unevenness 9 = .ok (.istore_n 2, 1) := by decide +kernel
theorem dX8_unevenness_10 : decode cX8_unevenness 10 = .ok (.iconst 0, 1) := by decide +kernel
theorem dX8_unevenness_11 : decode cX8_unevenness 11 = .ok (.istore_n 3, 1) := by decide +kernel
theorem dX8_unevenness_12 : decode cX8_unevenness 12 = .ok (.iload_n 3, 1) := by decide +kernel
theorem dX8_unevenness_13 : decode cX8_unevenness 13 = .ok (.bipush 12, 2) := by decide +kernel
theorem dX8_unevenness_15 : decode cX8_unevenness 15 = .ok (.if_icmp .ge 45, 3) := by decide +kernel
theorem dX8_unevenness_18 : decode cX8_unevenness 18 = .ok (.aload_n 0, 1) := by decide +kernel
theorem dX8_unevenness_19 : decode cX8_unevenness 19 = .ok (.getfield 9, 3) := by decide +kernel
theorem dX8_unevenness_22 : decode cX8_unevenness 22 = .ok (.iload_n 3, 1) := by decide +kernel
theorem dX8_unevenness_23 : decode cX8_unevenness 23 = .ok (.ishr, 1) := by decide +kernel
theorem dX8_unevenness_24 : decode cX8_unevenness 24 = .ok (.iconst 1, 1) := by decide +kernel
theorem dX8_unevenness_25 : decode cX8_unevenness 25 = .ok (.iand, 1) := by decide +kernel
theorem dX8_unevenness_26 : decode cX8_unevenness 26 = .ok (.ifCond .ne 6, 3) := by decide +kernel
theorem dX8_unevenness_29 : decode cX8_unevenness 29 = .ok (.goto 25, 3) := by decide +kernel
theorem dX8_unevenness_32 : decode cX8_unevenness 32 = .ok (.iload_n 1, 1) := by decide +kernel
theorem dX8_unevenness_33 : decode cX8_unevenness 33 = .ok (.aload_n 0, 1) := by decide +kernel
theorem dX8_unevenness_34 : decode cX8_unevenness 34 = .ok (.getfield 41, 3) := by decide +kernel
theorem dX8_unevenness_37 : decode cX8_unevenness 37 = .ok (.iload_n 3, 1) := by decide +kernel
theorem dX8_unevenness_38 : decode cX8_unevenness 38 = .ok (.iaload, 1) := by decide +kernel
theorem dX8_unevenness_39 : decode cX8_unevenness 39 = .ok (.invokestatic 61, 3) := by decide +kernel
theorem dX8_unevenness_42 : decode cX8_unevenness 42 = .ok (.istore_n 1, 1) := by decide +kernel
theorem dX8_unevenness_43 : decode cX8_unevenness 43 = .ok (.iload_n 2, 1) := by decide +kernel
theorem dX8_unevenness_44 : decode cX8_unevenness 44 = .ok (.aload_n 0, 1) := by decide +kernel
theorem dX8_unevenness_45 : decode cX8_unevenness 45 = .ok (.getfield 41, 3) := by decide +kernel
theorem dX8_unevenness_48 : decode cX8_unevenness 48 = .ok (.iload_n 3, 1) := by decide +kernel
theorem dX8_unevenness_49 : decode cX8_unevenness 49 = .ok (.iaload, 1) := by decide +kernel
theorem dX8_unevenness_50 : decode cX8_unevenness 50 = .ok (.invokestatic 67, 3) := by decide +kernel
theorem dX8_unevenness_53 : decode cX8_unevenness 53 = .ok (.istore_n 2, 1) := by decide +kernel
theorem dX8_unevenness_54 : decode cX8_unevenness 54 = .ok (.iinc 3 1, 3) := by decide +kernel
theorem dX8_unevenness_57 : decode cX8_unevenness 57 = .ok (.goto (-45), 3) := by decide +kernel
theorem dX8_unevenness_60 : decode cX8_unevenness 60 = .ok (.iload_n 2, 1) := by decide +kernel
theorem dX8_unevenness_61 : decode cX8_unevenness 61 = .ok (.iload_n 1, 1) := by decide +kernel
theorem dX8_unevenness_62 : decode cX8_unevenness 62 = .ok (.isub, 1) := by decide +kernel
theorem dX8_unevenness_63 : decode cX8_unevenness 63 = .ok (.ireturn, 1) := by decide +kernel
theorem dX8_alikeIn_0 : decode cX8_alikeIn 0 = .ok (.aload_n 0, 1) := by decide +kernel
theorem dX8_alikeIn_1 : decode cX8_alikeIn 1 = .ok (.getfield 9, 3) := by decide +kernel
theorem dX8_alikeIn_4 : decode cX8_alikeIn 4 = .ok (.aload_n 1, 1) := by decide +kernel
theorem dX8_alikeIn_5 : decode cX8_alikeIn 5 = .ok (.getfield 9, 3) := by decide +kernel
theorem dX8_alikeIn_8 : decode cX8_alikeIn 8 = .ok (.iand, 1) := by decide +kernel
theorem dX8_alikeIn_9 : decode cX8_alikeIn 9 = .ok (.istore_n 2, 1) := by decide +kernel
theorem dX8_alikeIn_10 : decode cX8_alikeIn 10 = .ok (.iconst 0, 1) := by decide +kernel
theorem dX8_alikeIn_11 : decode cX8_alikeIn 11 = .ok (.istore_n 3, 1) := by decide +kernel
theorem dX8_alikeIn_12 : decode cX8_alikeIn 12 = .ok (.iload_n 3, 1) := by decide +kernel
theorem dX8_alikeIn_13 : decode cX8_alikeIn 13 = .ok (.bipush 12, 2) := by decide +kernel
theorem dX8_alikeIn_15 : decode cX8_alikeIn 15 = .ok (.if_icmp .ge 32, 3) := by decide +kernel
theorem dX8_alikeIn_18 : decode cX8_alikeIn 18 = .ok (.aload_n 0, 1) := by decide +kernel
theorem dX8_alikeIn_19 : decode cX8_alikeIn 19 = .ok (.getfield 37, 3) := by decide +kernel
theorem dX8_alikeIn_22 : decode cX8_alikeIn 22 = .ok (.iload_n 3, 1) := by decide +kernel
theorem dX8_alikeIn_23 : decode cX8_alikeIn 23 = .ok (.iaload, 1) := by decide +kernel
theorem dX8_alikeIn_24 : decode cX8_alikeIn 24 = .ok (.aload_n 1, 1) := by decide +kernel
theorem dX8_alikeIn_25 : decode cX8_alikeIn 25 = .ok (.getfield 37, 3) := by decide +kernel
theorem dX8_alikeIn_28 : decode cX8_alikeIn 28 = .ok (.iload_n 3, 1) := by decide +kernel
theorem dX8_alikeIn_29 : decode cX8_alikeIn 29 = .ok (.iaload, 1) := by decide +kernel
theorem dX8_alikeIn_30 : decode cX8_alikeIn 30 = .ok (.if_icmp .eq 11, 3) := by decide +kernel
theorem dX8_alikeIn_33 : decode cX8_alikeIn 33 = .ok (.iload_n 2, 1) := by decide +kernel
theorem dX8_alikeIn_34 : decode cX8_alikeIn 34 = .ok (.iconst 1, 1) := by decide +kernel
theorem dX8_alikeIn_35 : decode cX8_alikeIn 35 = .ok (.iload_n 3, 1) := by decide +kernel
theorem dX8_alikeIn_36 : decode cX8_alikeIn 36 = .ok (.ishl, 1) := by decide +kernel
theorem dX8_alikeIn_37 : decode cX8_alikeIn 37 = .ok (.iconst (-1), 1) := by decide +kernel
theorem dX8_alikeIn_38 : decode cX8_alikeIn 38 = .ok (.ixor, 1) := by decide +kernel
theorem dX8_alikeIn_39 : decode cX8_alikeIn 39 = .ok (.iand, 1) := by decide +kernel
theorem dX8_alikeIn_40 : decode cX8_alikeIn 40 = .ok (.istore_n 2, 1) := by decide +kernel
theorem dX8_alikeIn_41 : decode cX8_alikeIn 41 = .ok (.iinc 3 1, 3) := by decide +kernel
theorem dX8_alikeIn_44 : decode cX8_alikeIn 44 = .ok (.goto (-32), 3) := by decide +kernel
theorem dX8_alikeIn_47 : decode cX8_alikeIn 47 = .ok (.iload_n 2, 1) := by decide +kernel
theorem dX8_alikeIn_48 : decode cX8_alikeIn 48 = .ok (.ireturn, 1) := by decide +kernel
theorem dX10_leastHarm_0 : decode cX10_leastHarm 0 = .ok (.iconst (-1), 1) := by decide +kernel
theorem dX10_leastHarm_1 : decode cX10_leastHarm 1 = .ok (.istore_n 3, 1) := by decide +kernel
theorem dX10_leastHarm_2 : decode cX10_leastHarm 2 = .ok (.aload_n 2, 1) := by decide +kernel
theorem dX10_leastHarm_3 : decode cX10_leastHarm 3 = .ok (.aload_n 1, 1) := by decide +kernel
theorem dX10_leastHarm_4 : decode cX10_leastHarm 4 = .ok (.invokevirtual 29, 3) := by decide +kernel
theorem dX10_leastHarm_7 : decode cX10_leastHarm 7 = .ok (.iconst 0, 1) := by decide +kernel
theorem dX10_leastHarm_8 : decode cX10_leastHarm 8 = .ok (.istore 4, 2) := by decide +kernel
theorem dX10_leastHarm_10 : decode cX10_leastHarm 10 = .ok (.iload 4, 2) := by decide +kernel
theorem dX10_leastHarm_12 : decode cX10_leastHarm 12 = .ok (.aload_n 0, 1) := by decide +kernel
theorem dX10_leastHarm_13 : decode cX10_leastHarm 13 = .ok (.getfield 15, 3) := by decide +kernel
theorem dX10_leastHarm_16 : decode cX10_leastHarm 16 = .ok (.if_icmp .ge 50, 3) := by decide +kernel
theorem dX10_leastHarm_19 : decode cX10_leastHarm 19 = .ok (.aload_n 2, 1) := by decide +kernel
theorem dX10_leastHarm_20 : decode cX10_leastHarm 20 = .ok (.aload_n 0, 1) := by decide +kernel
theorem dX10_leastHarm_21 : decode cX10_leastHarm 21 = .ok (.getfield 9, 3) := by decide +kernel
theorem dX10_leastHarm_24 : decode cX10_leastHarm 24 = .ok (.iload 4, 2) := by decide +kernel
theorem dX10_leastHarm_26 : decode cX10_leastHarm 26 = .ok (.iaload, 1) := by decide +kernel
theorem dX10_leastHarm_27 : decode cX10_leastHarm 27 = .ok (.invokevirtual 35, 3) := by decide +kernel
theorem dX10_leastHarm_30 : decode cX10_leastHarm 30 = .ok (.aload_n 0, 1) := by decide +kernel
theorem dX10_leastHarm_31 : decode cX10_leastHarm 31 = .ok (.aload_n 2, 1) := by decide +kernel
theorem dX10_leastHarm_32 : decode cX10_leastHarm 32 = .ok (.invokevirtual 39, 3) := by decide +kernel
theorem dX10_leastHarm_35 : decode cX10_leastHarm 35 = .ok (.istore 5, 2) := by decide +kernel
theorem dX10_leastHarm_37 : decode cX10_leastHarm 37 = .ok (.iload_n 3, 1) := by decide +kernel
theorem dX10_leastHarm_38 : decode cX10_leastHarm 38 = .ok (.iconst (-1), 1) := by decide +kernel
theorem dX10_leastHarm_39 : decode cX10_leastHarm 39 = .ok (.if_icmp .eq 12, 3) := by decide +kernel
theorem dX10_leastHarm_42 : decode cX10_leastHarm 42 = .ok (.iload 5, 2) := by decide +kernel
theorem dX10_leastHarm_44 : decode cX10_leastHarm 44 = .ok (.aload_n 0, 1) := by decide +kernel
theorem dX10_leastHarm_45 : decode cX10_leastHarm 45 = .ok (.getfield 19, 3) := by decide +kernel
theorem dX10_leastHarm_48 : decode cX10_leastHarm 48 = .ok (.if_icmp .ge 12, 3) := by decide +kernel
theorem dX10_leastHarm_51 : decode cX10_leastHarm 51 = .ok (.iload 4, 2) := by decide +kernel
theorem dX10_leastHarm_53 : decode cX10_leastHarm 53 = .ok (.istore_n 3, 1) := by decide +kernel
theorem dX10_leastHarm_54 : decode cX10_leastHarm 54 = .ok (.aload_n 0, 1) := by decide +kernel
theorem dX10_leastHarm_55 : decode cX10_leastHarm 55 = .ok (.iload 5, 2) := by decide +kernel
theorem dX10_leastHarm_57 : decode cX10_leastHarm 57 = .ok (.putfield 19, 3) := by decide +kernel
theorem dX10_leastHarm_60 : decode cX10_leastHarm 60 = .ok (.iinc 4 1, 3) := by decide +kernel
theorem dX10_leastHarm_63 : decode cX10_leastHarm 63 = .ok (.goto (-53), 3) := by decide +kernel
theorem dX10_leastHarm_66 : decode cX10_leastHarm 66 = .ok (.aload_n 0, 1) := by decide +kernel
theorem dX10_leastHarm_67 : decode cX10_leastHarm 67 = .ok (.iconst 0, 1) := by decide +kernel
theorem dX10_leastHarm_68 : decode cX10_leastHarm 68 = .ok (.putfield 15, 3) := by decide +kernel
theorem dX10_leastHarm_71 : decode cX10_leastHarm 71 = .ok (.iload_n 3, 1) := by decide +kernel
theorem dX10_leastHarm_72 : decode cX10_leastHarm 72 = .ok (.ireturn, 1) := by decide +kernel
theorem dX10_greatestShare_0 : decode cX10_greatestShare 0 = .ok (.aload_n 0, 1) := by decide +kernel
theorem dX10_greatestShare_1 : decode cX10_greatestShare 1 = .ok (.getfield 22, 3) := by decide +kernel
theorem dX10_greatestShare_4 : decode cX10_greatestShare 4 = .ok (.iconst 0, 1) := by decide +kernel
theorem dX10_greatestShare_5 : decode cX10_greatestShare 5 = .ok (.invokestatic 43, 3) := by decide +kernel
theorem dX10_greatestShare_8 : decode cX10_greatestShare 8 = .ok (.iconst 0, 1) := by decide +kernel
theorem dX10_greatestShare_9 : decode cX10_greatestShare 9 = .ok (.istore_n 2, 1) := by decide +kernel
theorem dX10_greatestShare_10 : decode cX10_greatestShare 10 = .ok (.iconst 0, 1) := by decide +kernel
theorem dX10_greatestShare_11 : decode cX10_greatestShare 11 = .ok (.istore_n 3, 1) := by decide +kernel
theorem dX10_greatestShare_12 : decode cX10_greatestShare 12 = .ok (.iload_n 3, 1) := by decide +kernel
theorem dX10_greatestShare_13 : decode cX10_greatestShare 13 = .ok (.aload_n 0, 1) := by decide +kernel
theorem dX10_greatestShare_14 : decode cX10_greatestShare 14 = .ok (.getfield 25, 3) := by decide +kernel
theorem dX10_greatestShare_17 : decode cX10_greatestShare 17 = .ok (.getfield 49, 3) := by decide +kernel
theorem dX10_greatestShare_20 : decode cX10_greatestShare 20 = .ok (.if_icmp .ge 65, 3) := by decide +kernel
theorem dX10_greatestShare_23 : decode cX10_greatestShare 23 = .ok (.aload_n 1, 1) := by decide +kernel
theorem dX10_greatestShare_24 : decode cX10_greatestShare 24 = .ok (.aload_n 0, 1) := by decide +kernel
theorem dX10_greatestShare_25 : decode cX10_greatestShare 25 = .ok (.getfield 25, 3) := by decide +kernel
theorem dX10_greatestShare_28 : decode cX10_greatestShare 28 = .ok (.iload_n 3, 1) := by decide +kernel
theorem dX10_greatestShare_29 : decode cX10_greatestShare 29 = .ok (.aload_n 1, 1) := by decide +kernel
theorem dX10_greatestShare_30 : decode cX10_greatestShare 30 = .ok (.getfield 52, 3) := by decide +kernel
theorem dX10_greatestShare_33 : decode cX10_greatestShare 33 = .ok (.invokevirtual 55, 3) := by decide +kernel
theorem dX10_greatestShare_36 : decode cX10_greatestShare 36 = .ok (.invokevirtual 59, 3) := by decide +kernel
theorem dX10_greatestShare_39 : decode cX10_greatestShare 39 = .ok (.istore 4, 2) := by decide +kernel
theorem dX10_greatestShare_41 : decode cX10_greatestShare 41 = .ok (.iload 4, 2) := by decide +kernel
theorem dX10_greatestShare_43 : decode cX10_greatestShare 43 = .ok (.ifCond .lt 36, 3) := by decide +kernel
theorem dX10_greatestShare_46 : decode cX10_greatestShare 46 = .ok (.iload 4, 2) := by decide +kernel
theorem dX10_greatestShare_48 : decode cX10_greatestShare 48 = .ok (.bipush 12, 2) := by decide +kernel
theorem dX10_greatestShare_50 : decode cX10_greatestShare 50 = .ok (.if_icmp .lt 6, 3) := by decide +kernel
theorem dX10_greatestShare_53 : decode cX10_greatestShare 53 = .ok (.goto 26, 3) := by decide +kernel
theorem dX10_greatestShare_56 : decode cX10_greatestShare 56 = .ok (.aload_n 0, 1) := by decide +kernel
theorem dX10_greatestShare_57 : decode cX10_greatestShare 57 = .ok (.getfield 22, 3) := by decide +kernel
theorem dX10_greatestShare_60 : decode cX10_greatestShare 60 = .ok (.iload 4, 2) := by decide +kernel
theorem dX10_greatestShare_62 : decode cX10_greatestShare 62 = .ok (.dup2, 1) := by decide +kernel
theorem dX10_greatestShare_63 : decode cX10_greatestShare 63 = .ok (.iaload, 1) := by decide +kernel
theorem dX10_greatestShare_64 : decode cX10_greatestShare 64 = .ok (.iconst 1, 1) := by decide +kernel
theorem dX10_greatestShare_65 : decode cX10_greatestShare 65 = .ok (.iadd, 1) := by decide +kernel
theorem dX10_greatestShare_66 : decode cX10_greatestShare 66 = .ok (.iastore, 1) := by decide +kernel
theorem dX10_greatestShare_67 : decode cX10_greatestShare 67 = .ok (.iload_n 2, 1) := by decide +kernel
theorem dX10_greatestShare_68 : decode cX10_greatestShare 68 = .ok (.aload_n 0, 1) := by decide +kernel
theorem dX10_greatestShare_69 : decode cX10_greatestShare 69 = .ok (.getfield 22, 3) := by decide +kernel
theorem dX10_greatestShare_72 : decode cX10_greatestShare 72 = .ok (.iload 4, 2) := by decide +kernel
theorem dX10_greatestShare_74 : decode cX10_greatestShare 74 = .ok (.iaload, 1) := by decide +kernel
theorem dX10_greatestShare_75 : decode cX10_greatestShare 75 = .ok (.invokestatic 63, 3) := by decide +kernel
theorem dX10_greatestShare_78 : decode cX10_greatestShare 78 = .ok (.istore_n 2, 1) := by decide +kernel
theorem dX10_greatestShare_79 : decode cX10_greatestShare 79 = .ok (.iinc 3 1, 3) := by decide +kernel
theorem dX10_greatestShare_82 : decode cX10_greatestShare 82 = .ok (.goto (-70), 3) := by decide +kernel
theorem dX10_greatestShare_85 : decode cX10_greatestShare 85 = .ok (.iload_n 2, 1) := by decide +kernel
theorem dX10_greatestShare_86 : decode cX10_greatestShare 86 = .ok (.ireturn, 1) := by decide +kernel
theorem dX11_feed_26 : decode cX11_feed 26 = .ok (.bipush (-3), 2) := by decide +kernel
theorem dX11_feed_28 : decode cX11_feed 28 = .ok (.ireturn, 1) := by decide +kernel
theorem dX11_name_11 : decode cX11_name 11 = .ok (.aload_n 0, 1) := by decide +kernel
theorem dX11_name_12 : decode cX11_name 12 = .ok (.getfield 10, 3) := by decide +kernel
theorem dX11_name_15 : decode cX11_name 15 = .ok (.getfield 102, 3) := by decide +kernel
theorem dX11_name_18 : decode cX11_name 18 = .ok (.bipush 6, 2) := by decide +kernel
theorem dX11_name_20 : decode cX11_name 20 = .ok (.if_icmp .le 5, 3) := by decide +kernel
theorem dX11_name_25 : decode cX11_name 25 = .ok (.aload_n 0, 1) := by decide +kernel
theorem dX11_name_26 : decode cX11_name 26 = .ok (.getfield 19, 3) := by decide +kernel
theorem dX11_name_29 : decode cX11_name 29 = .ok (.aload_n 0, 1) := by decide +kernel
theorem dX11_name_30 : decode cX11_name 30 = .ok (.getfield 10, 3) := by decide +kernel
theorem dX11_name_33 : decode cX11_name 33 = .ok (.getfield 109, 3) := by decide +kernel
theorem dX11_name_36 : decode cX11_name 36 = .ok (.iconst 0, 1) := by decide +kernel
theorem dX11_name_37 : decode cX11_name 37 = .ok (.aload_n 0, 1) := by decide +kernel
theorem dX11_name_38 : decode cX11_name 38 = .ok (.getfield 10, 3) := by decide +kernel
theorem dX11_name_41 : decode cX11_name 41 = .ok (.getfield 102, 3) := by decide +kernel
theorem dX11_name_44 : decode cX11_name 44 = .ok (.invokevirtual 113, 3) := by decide +kernel
theorem dX11_name_47 : decode cX11_name 47 = .ok (.istore_n 1, 1) := by decide +kernel
theorem dX11_name_48 : decode cX11_name 48 = .ok (.iload_n 1, 1) := by decide +kernel
theorem dX11_name_49 : decode cX11_name 49 = .ok (.iconst (-1), 1) := by decide +kernel
theorem dX11_name_50 : decode cX11_name 50 = .ok (.if_icmp .ne 41, 3) := by decide +kernel
theorem dX11_name_53 : decode cX11_name 53 = .ok (.aload_n 0, 1) := by decide +kernel
theorem dX11_name_54 : decode cX11_name 54 = .ok (.getfield 19, 3) := by decide +kernel
theorem dX11_name_57 : decode cX11_name 57 = .ok (.getfield 117, 3) := by decide +kernel
theorem dX11_name_60 : decode cX11_name 60 = .ok (.bipush 40, 2) := by decide +kernel
theorem dX11_name_62 : decode cX11_name 62 = .ok (.if_icmp .lt 6, 3) := by decide +kernel
theorem dX11_name_65 : decode cX11_name 65 = .ok (.bipush (-3), 2) := by decide +kernel
theorem dX11_name_67 : decode cX11_name 67 = .ok (.ireturn, 1) := by decide +kernel
theorem dX11_name_68 : decode cX11_name 68 = .ok (.aload_n 0, 1) := by decide +kernel
theorem dX11_name_69 : decode cX11_name 69 = .ok (.getfield 19, 3) := by decide +kernel
theorem dX11_name_72 : decode cX11_name 72 = .ok (.aload_n 0, 1) := by decide +kernel
theorem dX11_name_73 : decode cX11_name 73 = .ok (.getfield 10, 3) := by decide +kernel
theorem dX11_name_76 : decode cX11_name 76 = .ok (.getfield 109, 3) := by decide +kernel
theorem dX11_name_79 : decode cX11_name 79 = .ok (.iconst 0, 1) := by decide +kernel
theorem dX11_name_80 : decode cX11_name 80 = .ok (.aload_n 0, 1) := by decide +kernel
theorem dX11_name_81 : decode cX11_name 81 = .ok (.getfield 10, 3) := by decide +kernel
theorem dX11_name_84 : decode cX11_name 84 = .ok (.getfield 102, 3) := by decide +kernel
theorem dX11_name_87 : decode cX11_name 87 = .ok (.invokevirtual 120, 3) := by decide +kernel
theorem dX11_name_90 : decode cX11_name 90 = .ok (.istore_n 1, 1) := by decide +kernel
theorem dX11_name_91 : decode cX11_name 91 = .ok (.aload_n 0, 1) := by decide +kernel
theorem dX11_name_92 : decode cX11_name 92 = .ok (.getfield 10, 3) := by decide +kernel
theorem dX11_name_95 : decode cX11_name 95 = .ok (.iconst 0, 1) := by decide +kernel
theorem dX11_name_96 : decode cX11_name 96 = .ok (.putfield 102, 3) := by decide +kernel
theorem dX11_name_99 : decode cX11_name 99 = .ok (.iload_n 1, 1) := by decide +kernel
theorem dX11_name_100 : decode cX11_name 100 = .ok (.ireturn, 1) := by decide +kernel
theorem dX11_number_13 : decode cX11_number 13 = .ok (.aload_n 0, 1) := by decide +kernel
theorem dX11_number_14 : decode cX11_number 14 = .ok (.getfield 19, 3) := by decide +kernel
theorem dX11_number_17 : decode cX11_number 17 = .ok (.iload_n 1, 1) := by decide +kernel
theorem dX11_number_18 : decode cX11_number 18 = .ok (.iload_n 2, 1) := by decide +kernel
theorem dX11_number_19 : decode cX11_number 19 = .ok (.invokevirtual 127, 3) := by decide +kernel
theorem dX11_number_22 : decode cX11_number 22 = .ok (.ireturn, 1) := by decide +kernel
theorem dX11_keeper_30 : decode cX11_keeper 30 = .ok (.bipush (-3), 2) := by decide +kernel
theorem dX11_keeper_32 : decode cX11_keeper 32 = .ok (.ireturn, 1) := by decide +kernel
theorem dX11_become_11 : decode cX11_become 11 = .ok (.iload_n 2, 1) := by decide +kernel
theorem dX11_become_12 : decode cX11_become 12 = .ok (.invokestatic 138, 3) := by decide +kernel
theorem dX11_become_15 : decode cX11_become 15 = .ok (.ifCond .ne 5, 3) := by decide +kernel
theorem dX11_become_20 : decode cX11_become 20 = .ok (.aload_n 0, 1) := by decide +kernel
theorem dX11_become_21 : decode cX11_become 21 = .ok (.getfield 26, 3) := by decide +kernel
theorem dX11_become_24 : decode cX11_become 24 = .ok (.getfield 141, 3) := by decide +kernel
theorem dX11_become_27 : decode cX11_become 27 = .ok (.iload_n 1, 1) := by decide +kernel
theorem dX11_become_28 : decode cX11_become 28 = .ok (.iaload, 1) := by decide +kernel
theorem dX11_become_29 : decode cX11_become 29 = .ok (.istore_n 3, 1) := by decide +kernel
theorem dX11_become_30 : decode cX11_become 30 = .ok (.aload_n 0, 1) := by decide +kernel
theorem dX11_become_31 : decode cX11_become 31 = .ok (.getfield 26, 3) := by decide +kernel
theorem dX11_become_34 : decode cX11_become 34 = .ok (.getfield 141, 3) := by decide +kernel
theorem dX11_become_37 : decode cX11_become 37 = .ok (.iload_n 1, 1) := by decide +kernel
theorem dX11_become_38 : decode cX11_become 38 = .ok (.iload_n 2, 1) := by decide +kernel
theorem dX11_become_39 : decode cX11_become 39 = .ok (.iastore, 1) := by decide +kernel
theorem dX11_become_40 : decode cX11_become 40 = .ok (.iload_n 3, 1) := by decide +kernel
theorem dX11_become_41 : decode cX11_become 41 = .ok (.iconst 4, 1) := by decide +kernel
theorem dX11_become_42 : decode cX11_become 42 = .ok (.if_icmp .ne 16, 3) := by decide +kernel
theorem dX11_become_45 : decode cX11_become 45 = .ok (.iload_n 2, 1) := by decide +kernel
theorem dX11_become_46 : decode cX11_become 46 = .ok (.iconst 4, 1) := by decide +kernel
theorem dX11_become_47 : decode cX11_become 47 = .ok (.if_icmp .eq 11, 3) := by decide +kernel
theorem dX11_become_50 : decode cX11_become 50 = .ok (.aload_n 0, 1) := by decide +kernel
theorem dX11_become_51 : decode cX11_become 51 = .ok (.getfield 66, 3) := by decide +kernel
theorem dX11_become_54 : decode cX11_become 54 = .ok (.iload_n 1, 1) := by decide +kernel
theorem dX11_become_55 : decode cX11_become 55 = .ok (.invokevirtual 145, 3) := by decide +kernel
theorem dX11_become_58 : decode cX11_become 58 = .ok (.iload_n 3, 1) := by decide +kernel
theorem dX11_become_59 : decode cX11_become 59 = .ok (.ireturn, 1) := by decide +kernel
theorem dX11_strength_11 : decode cX11_strength 11 = .ok (.iload_n 2, 1) := by decide +kernel
theorem dX11_strength_12 : decode cX11_strength 12 = .ok (.invokestatic 131, 3) := by decide +kernel
theorem dX11_strength_15 : decode cX11_strength 15 = .ok (.ifCond .ne 5, 3) := by decide +kernel
theorem dX11_strength_20 : decode cX11_strength 20 = .ok (.aload_n 0, 1) := by decide +kernel
theorem dX11_strength_21 : decode cX11_strength 21 = .ok (.getfield 26, 3) := by decide +kernel
theorem dX11_strength_24 : decode cX11_strength 24 = .ok (.getfield 149, 3) := by decide +kernel
theorem dX11_strength_27 : decode cX11_strength 27 = .ok (.iload_n 1, 1) := by decide +kernel
theorem dX11_strength_28 : decode cX11_strength 28 = .ok (.iaload, 1) := by decide +kernel
theorem dX11_strength_29 : decode cX11_strength 29 = .ok (.istore_n 3, 1) := by decide +kernel
theorem dX11_strength_30 : decode cX11_strength 30 = .ok (.aload_n 0, 1) := by decide +kernel
theorem dX11_strength_31 : decode cX11_strength 31 = .ok (.getfield 26, 3) := by decide +kernel
theorem dX11_strength_34 : decode cX11_strength 34 = .ok (.getfield 149, 3) := by decide +kernel
theorem dX11_strength_37 : decode cX11_strength 37 = .ok (.iload_n 1, 1) := by decide +kernel
theorem dX11_strength_38 : decode cX11_strength 38 = .ok (.iload_n 2, 1) := by decide +kernel
theorem dX11_strength_39 : decode cX11_strength 39 = .ok (.iastore, 1) := by decide +kernel
theorem dX11_strength_40 : decode cX11_strength 40 = .ok (.iload_n 3, 1) := by decide +kernel
theorem dX11_strength_41 : decode cX11_strength 41 = .ok (.ireturn, 1) := by decide +kernel
theorem dX11_ofKeeper_14 : decode cX11_ofKeeper 14 = .ok (.iload_n 2, 1) := by decide +kernel
theorem dX11_ofKeeper_15 : decode cX11_ofKeeper 15 = .ok (.tableswitch 130 0 7 #[45, 55, 65, 75, 84, 94, 103, 112], 45) := by decide +kernel
theorem dX11_ofKeeper_60 : decode cX11_ofKeeper 60 = .ok (.aload_n 0, 1) := by decide +kernel
theorem dX11_ofKeeper_61 : decode cX11_ofKeeper 61 = .ok (.getfield 26, 3) := by decide +kernel
theorem dX11_ofKeeper_64 : decode cX11_ofKeeper 64 = .ok (.getfield 141, 3) := by decide +kernel
