theorem dX12_setBy_33 : decode cX12_setBy 33 = .ok (.ishl, 1) := by decide +kernel
theorem dX12_setBy_34 : decode cX12_setBy 34 = .ok (.ixor, 1) := by decide +kernel
theorem dX12_setBy_35 : decode cX12_setBy 35 = .ok (.istore_n 3, 1) := by decide +kernel
theorem dX12_setBy_36 : decode cX12_setBy 36 = .ok (.iinc 4 1, 3) := by decide +kernel
theorem dX12_setBy_39 : decode cX12_setBy 39 = .ok (.goto (-29), 3) := by decide +kernel
theorem dX12_setBy_42 : decode cX12_setBy 42 = .ok (.iload_n 3, 1) := by decide +kernel
theorem dX12_setBy_43 : decode cX12_setBy 43 = .ok (.ireturn, 1) := by decide +kernel
theorem dX12_nextOrder_0 : decode cX12_nextOrder 0 = .ok (.iload_n 1, 1) := by decide +kernel
theorem dX12_nextOrder_1 : decode cX12_nextOrder 1 = .ok (.iconst 2, 1) := by decide +kernel
theorem dX12_nextOrder_2 : decode cX12_nextOrder 2 = .ok (.isub, 1) := by decide +kernel
theorem dX12_nextOrder_3 : decode cX12_nextOrder 3 = .ok (.istore_n 2, 1) := by decide +kernel
theorem dX12_nextOrder_4 : decode cX12_nextOrder 4 = .ok (.iload_n 2, 1) := by decide +kernel
theorem dX12_nextOrder_5 : decode cX12_nextOrder 5 = .ok (.ifCond .lt 34, 3) := by decide +kernel
theorem dX12_nextOrder_8 : decode cX12_nextOrder 8 = .ok (.aload_n 0, 1) := by decide +kernel
theorem dX12_nextOrder_9 : decode cX12_nextOrder 9 = .ok (.getfield 130, 3) := by decide +kernel
theorem dX12_nextOrder_12 : decode cX12_nextOrder 12 = .ok (.iload_n 2, 1) := by decide +kernel
theorem dX12_nextOrder_13 : decode cX12_nextOrder 13 = .ok (.ifCond .ge 7, 3) := by decide +kernel
theorem dX12_nextOrder_16 : decode cX12_nextOrder 16 = .ok (.iconst 0, 1) := by decide +kernel
theorem dX12_nextOrder_17 : decode cX12_nextOrder 17 = .ok (.goto 4, 3) := by decide +kernel
theorem dX12_nextOrder_20 : decode cX12_nextOrder 20 = .ok (.iload_n 2, 1) := by decide +kernel
theorem dX12_nextOrder_21 : decode cX12_nextOrder 21 = .ok (.iaload, 1) := by decide +kernel
theorem dX12_nextOrder_22 : decode cX12_nextOrder 22 = .ok (.aload_n 0, 1) := by decide +kernel
theorem dX12_nextOrder_23 : decode cX12_nextOrder 23 = .ok (.getfield 130, 3) := by decide +kernel
theorem dX12_nextOrder_26 : decode cX12_nextOrder 26 = .ok (.iload_n 2, 1) := by decide +kernel
theorem dX12_nextOrder_27 : decode cX12_nextOrder 27 = .ok (.iconst 1, 1) := by decide +kernel
theorem dX12_nextOrder_28 : decode cX12_nextOrder 28 = .ok (.iadd, 1) := by decide +kernel
theorem dX12_nextOrder_29 : decode cX12_nextOrder 29 = .ok (.iaload, 1) := by decide +kernel
theorem dX12_nextOrder_30 : decode cX12_nextOrder 30 = .ok (.if_icmp .le 9, 3) := by decide +kernel
theorem dX12_nextOrder_33 : decode cX12_nextOrder 33 = .ok (.iinc 2 (-1), 3) := by decide +kernel
theorem dX12_nextOrder_36 : decode cX12_nextOrder 36 = .ok (.goto (-32), 3) := by decide +kernel
theorem dX12_nextOrder_39 : decode cX12_nextOrder 39 = .ok (.iload_n 2, 1) := by decide +kernel
theorem dX12_nextOrder_40 : decode cX12_nextOrder 40 = .ok (.ifCond .ge 5, 3) := by decide +kernel
theorem dX12_nextOrder_43 : decode cX12_nextOrder 43 = .ok (.iconst 0, 1) := by decide +kernel
theorem dX12_nextOrder_44 : decode cX12_nextOrder 44 = .ok (.ireturn, 1) := by decide +kernel
theorem dX12_nextOrder_45 : decode cX12_nextOrder 45 = .ok (.iload_n 1, 1) := by decide +kernel
theorem dX12_nextOrder_46 : decode cX12_nextOrder 46 = .ok (.iconst 1, 1) := by decide +kernel
theorem dX12_nextOrder_47 : decode cX12_nextOrder 47 = .ok (.isub, 1) := by decide +kernel
theorem dX12_nextOrder_48 : decode cX12_nextOrder 48 = .ok (.istore_n 3, 1) := by decide +kernel
theorem dX12_nextOrder_49 : decode cX12_nextOrder 49 = .ok (.aload_n 0, 1) := by decide +kernel
theorem dX12_nextOrder_50 : decode cX12_nextOrder 50 = .ok (.getfield 130, 3) := by decide +kernel
theorem dX12_nextOrder_53 : decode cX12_nextOrder 53 = .ok (.iload_n 3, 1) := by decide +kernel
theorem dX12_nextOrder_54 : decode cX12_nextOrder 54 = .ok (.iaload, 1) := by decide +kernel
theorem dX12_nextOrder_55 : decode cX12_nextOrder 55 = .ok (.aload_n 0, 1) := by decide +kernel
theorem dX12_nextOrder_56 : decode cX12_nextOrder 56 = .ok (.getfield 130, 3) := by decide +kernel
theorem dX12_nextOrder_59 : decode cX12_nextOrder 59 = .ok (.iload_n 2, 1) := by decide +kernel
theorem dX12_nextOrder_60 : decode cX12_nextOrder 60 = .ok (.iaload, 1) := by decide +kernel
theorem dX12_nextOrder_61 : decode cX12_nextOrder 61 = .ok (.if_icmp .ge 9, 3) := by decide +kernel
theorem dX12_nextOrder_64 : decode cX12_nextOrder 64 = .ok (.iinc 3 (-1), 3) := by decide +kernel
theorem dX12_nextOrder_67 : decode cX12_nextOrder 67 = .ok (.goto (-18), 3) := by decide +kernel
theorem dX12_nextOrder_70 : decode cX12_nextOrder 70 = .ok (.aload_n 0, 1) := by decide +kernel
theorem dX12_nextOrder_71 : decode cX12_nextOrder 71 = .ok (.getfield 130, 3) := by decide +kernel
theorem dX12_nextOrder_74 : decode cX12_nextOrder 74 = .ok (.iload_n 2, 1) := by decide +kernel
theorem dX12_nextOrder_75 : decode cX12_nextOrder 75 = .ok (.iaload, 1) := by decide +kernel
theorem dX12_nextOrder_76 : decode cX12_nextOrder 76 = .ok (.istore 4, 2) := by decide +kernel
theorem dX12_nextOrder_78 : decode cX12_nextOrder 78 = .ok (.aload_n 0, 1) := by decide +kernel
theorem dX12_nextOrder_79 : decode cX12_nextOrder 79 = .ok (.getfield 130, 3) := by decide +kernel
theorem dX12_nextOrder_82 : decode cX12_nextOrder 82 = .ok (.iload_n 2, 1) := by decide +kernel
theorem dX12_nextOrder_83 : decode cX12_nextOrder 83 = .ok (.aload_n 0, 1) := by decide +kernel
theorem dX12_nextOrder_84 : decode cX12_nextOrder 84 = .ok (.getfield 130, 3) := by decide +kernel
theorem dX12_nextOrder_87 : decode cX12_nextOrder 87 = .ok (.iload_n 3, 1) := by decide +kernel
theorem dX12_nextOrder_88 : decode cX12_nextOrder 88 = .ok (.iaload, 1) := by decide +kernel
theorem dX12_nextOrder_89 : decode cX12_nextOrder 89 = .ok (.iastore, 1) := by decide +kernel
theorem dX12_nextOrder_90 : decode cX12_nextOrder 90 = .ok (.aload_n 0, 1) := by decide +kernel
theorem dX12_nextOrder_91 : decode cX12_nextOrder 91 = .ok (.getfield 130, 3) := by decide +kernel
theorem dX12_nextOrder_94 : decode cX12_nextOrder 94 = .ok (.iload_n 3, 1) := by decide +kernel
theorem dX12_nextOrder_95 : decode cX12_nextOrder 95 = .ok (.iload 4, 2) := by decide +kernel
theorem dX12_nextOrder_97 : decode cX12_nextOrder 97 = .ok (.iastore, 1) := by decide +kernel
theorem dX12_nextOrder_98 : decode cX12_nextOrder 98 = .ok (.iload_n 1, 1) := by decide +kernel
theorem dX12_nextOrder_99 : decode cX12_nextOrder 99 = .ok (.iconst 1, 1) := by decide +kernel
theorem dX12_nextOrder_100 : decode cX12_nextOrder 100 = .ok (.isub, 1) := by decide +kernel
theorem dX12_nextOrder_101 : decode cX12_nextOrder 101 = .ok (.istore 5, 2) := by decide +kernel
theorem dX12_nextOrder_103 : decode cX12_nextOrder 103 = .ok (.iload_n 2, 1) := by decide +kernel
theorem dX12_nextOrder_104 : decode cX12_nextOrder 104 = .ok (.iconst 1, 1) := by decide +kernel
theorem dX12_nextOrder_105 : decode cX12_nextOrder 105 = .ok (.iadd, 1) := by decide +kernel
theorem dX12_nextOrder_106 : decode cX12_nextOrder 106 = .ok (.istore 6, 2) := by decide +kernel
theorem dX12_nextOrder_108 : decode cX12_nextOrder 108 = .ok (.iload 6, 2) := by decide +kernel
theorem dX12_nextOrder_110 : decode cX12_nextOrder 110 = .ok (.iload 5, 2) := by decide +kernel
theorem dX12_nextOrder_112 : decode cX12_nextOrder 112 = .ok (.if_icmp .ge 44, 3) := by decide +kernel
theorem dX12_nextOrder_115 : decode cX12_nextOrder 115 = .ok (.aload_n 0, 1) := by decide +kernel
theorem dX12_nextOrder_116 : decode cX12_nextOrder 116 = .ok (.getfield 130, 3) := by decide +kernel
theorem dX12_nextOrder_119 : decode cX12_nextOrder 119 = .ok (.iload 6, 2) := by decide +kernel
theorem dX12_nextOrder_121 : decode cX12_nextOrder 121 = .ok (.iaload, 1) := by decide +kernel
theorem dX12_nextOrder_122 : decode cX12_nextOrder 122 = .ok (.istore 7, 2) := by decide +kernel
theorem dX12_nextOrder_124 : decode cX12_nextOrder 124 = .ok (.aload_n 0, 1) := by decide +kernel
theorem dX12_nextOrder_125 : decode cX12_nextOrder 125 = .ok (.getfield 130, 3) := by decide +kernel
theorem dX12_nextOrder_128 : decode cX12_nextOrder 128 = .ok (.iload 6, 2) := by decide +kernel
theorem dX12_nextOrder_130 : decode cX12_nextOrder 130 = .ok (.aload_n 0, 1) := by decide +kernel
theorem dX12_nextOrder_131 : decode cX12_nextOrder 131 = .ok (.getfield 130, 3) := by decide +kernel
theorem dX12_nextOrder_134 : decode cX12_nextOrder 134 = .ok (.iload 5, 2) := by decide +kernel
theorem dX12_nextOrder_136 : decode cX12_nextOrder 136 = .ok (.iaload, 1) := by decide +kernel
theorem dX12_nextOrder_137 : decode cX12_nextOrder 137 = .ok (.iastore, 1) := by decide +kernel
theorem dX12_nextOrder_138 : decode cX12_nextOrder 138 = .ok (.aload_n 0, 1) := by decide +kernel
theorem dX12_nextOrder_139 : decode cX12_nextOrder 139 = .ok (.getfield 130, 3) := by decide +kernel
theorem dX12_nextOrder_142 : decode cX12_nextOrder 142 = .ok (.iload 5, 2) := by decide +kernel
theorem dX12_nextOrder_144 : decode cX12_nextOrder 144 = .ok (.iload 7, 2) := by decide +kernel
theorem dX12_nextOrder_146 : decode cX12_nextOrder 146 = .ok (.iastore, 1) := by decide +kernel
theorem dX12_nextOrder_147 : decode cX12_nextOrder 147 = .ok (.iinc 5 (-1), 3) := by decide +kernel
theorem dX12_nextOrder_150 : decode cX12_nextOrder 150 = .ok (.iinc 6 1, 3) := by decide +kernel
theorem dX12_nextOrder_153 : decode cX12_nextOrder 153 = .ok (.goto (-45), 3) := by decide +kernel
theorem dX12_nextOrder_156 : decode cX12_nextOrder 156 = .ok (.iconst 1, 1) := by decide +kernel
theorem dX12_nextOrder_157 : decode cX12_nextOrder 157 = .ok (.ireturn, 1) := by decide +kernel
theorem dX12_movesBy_0 : decode cX12_movesBy 0 = .ok (.iconst 0, 1) := by decide +kernel
theorem dX12_movesBy_1 : decode cX12_movesBy 1 = .ok (.istore_n 2, 1) := by decide +kernel
theorem dX12_movesBy_2 : decode cX12_movesBy 2 = .ok (.iconst 0, 1) := by decide +kernel
theorem dX12_movesBy_3 : decode cX12_movesBy 3 = .ok (.istore_n 3, 1) := by decide +kernel
theorem dX12_movesBy_4 : decode cX12_movesBy 4 = .ok (.iconst 0, 1) := by decide +kernel
theorem dX12_movesBy_5 : decode cX12_movesBy 5 = .ok (.istore 4, 2) := by decide +kernel
theorem dX12_movesBy_7 : decode cX12_movesBy 7 = .ok (.iload 4, 2) := by decide +kernel
theorem dX12_movesBy_9 : decode cX12_movesBy 9 = .ok (.aload_n 0, 1) := by decide +kernel
theorem dX12_movesBy_10 : decode cX12_movesBy 10 = .ok (.getfield 310, 3) := by decide +kernel
theorem dX12_movesBy_13 : decode cX12_movesBy 13 = .ok (.if_icmp .ge 89, 3) := by decide +kernel
theorem dX12_movesBy_16 : decode cX12_movesBy 16 = .ok (.iload_n 3, 1) := by decide +kernel
theorem dX12_movesBy_17 : decode cX12_movesBy 17 = .ok (.iconst 1, 1) := by decide +kernel
theorem dX12_movesBy_18 : decode cX12_movesBy 18 = .ok (.aload_n 0, 1) := by decide +kernel
theorem dX12_movesBy_19 : decode cX12_movesBy 19 = .ok (.getfield 130, 3) := by decide +kernel
theorem dX12_movesBy_22 : decode cX12_movesBy 22 = .ok (.iload 4, 2) := by decide +kernel
theorem dX12_movesBy_24 : decode cX12_movesBy 24 = .ok (.iaload, 1) := by decide +kernel
theorem dX12_movesBy_25 : decode cX12_movesBy 25 = .ok (.ishl, 1) := by decide +kernel
theorem dX12_movesBy_26 : decode cX12_movesBy 26 = .ok (.ior, 1) := by decide +kernel
theorem dX12_movesBy_27 : decode cX12_movesBy 27 = .ok (.istore 5, 2) := by decide +kernel
theorem dX12_movesBy_29 : decode cX12_movesBy 29 = .ok (.aload_n 0, 1) := by decide +kernel
theorem dX12_movesBy_30 : decode cX12_movesBy 30 = .ok (.iload_n 1, 1) := by decide +kernel
theorem dX12_movesBy_31 : decode cX12_movesBy 31 = .ok (.iload 5, 2) := by decide +kernel
theorem dX12_movesBy_33 : decode cX12_movesBy 33 = .ok (.invokevirtual 316, 3) := by decide +kernel
theorem dX12_movesBy_36 : decode cX12_movesBy 36 = .ok (.ifCond .ne 5, 3) := by decide +kernel
theorem dX12_movesBy_39 : decode cX12_movesBy 39 = .ok (.iconst (-1), 1) := by decide +kernel
theorem dX12_movesBy_40 : decode cX12_movesBy 40 = .ok (.ireturn, 1) := by decide +kernel
theorem dX12_movesBy_41 : decode cX12_movesBy 41 = .ok (.iconst 0, 1) := by decide +kernel
theorem dX12_movesBy_42 : decode cX12_movesBy 42 = .ok (.istore 6, 2) := by decide +kernel
theorem dX12_movesBy_44 : decode cX12_movesBy 44 = .ok (.iload 6, 2) := by decide +kernel
theorem dX12_movesBy_46 : decode cX12_movesBy 46 = .ok (.aload_n 0, 1) := by decide +kernel
theorem dX12_movesBy_47 : decode cX12_movesBy 47 = .ok (.getfield 133, 3) := by decide +kernel
theorem dX12_movesBy_50 : decode cX12_movesBy 50 = .ok (.if_icmp .ge 43, 3) := by decide +kernel
theorem dX12_movesBy_53 : decode cX12_movesBy 53 = .ok (.iload_n 2, 1) := by decide +kernel
theorem dX12_movesBy_54 : decode cX12_movesBy 54 = .ok (.aload_n 0, 1) := by decide +kernel
theorem dX12_movesBy_55 : decode cX12_movesBy 55 = .ok (.getfield 127, 3) := by decide +kernel
theorem dX12_movesBy_58 : decode cX12_movesBy 58 = .ok (.bipush 40, 2) := by decide +kernel
theorem dX12_movesBy_60 : decode cX12_movesBy 60 = .ok (.iload 5, 2) := by decide +kernel
theorem dX12_movesBy_62 : decode cX12_movesBy 62 = .ok (.imul, 1) := by decide +kernel
theorem dX12_movesBy_63 : decode cX12_movesBy 63 = .ok (.iload 6, 2) := by decide +kernel
theorem dX12_movesBy_65 : decode cX12_movesBy 65 = .ok (.iadd, 1) := by decide +kernel
theorem dX12_movesBy_66 : decode cX12_movesBy 66 = .ok (.iaload, 1) := by decide +kernel
theorem dX12_movesBy_67 : decode cX12_movesBy 67 = .ok (.aload_n 0, 1) := by decide +kernel
theorem dX12_movesBy_68 : decode cX12_movesBy 68 = .ok (.getfield 127, 3) := by decide +kernel
theorem dX12_movesBy_71 : decode cX12_movesBy 71 = .ok (.bipush 40, 2) := by decide +kernel
theorem dX12_movesBy_73 : decode cX12_movesBy 73 = .ok (.iload_n 3, 1) := by decide +kernel
theorem dX12_movesBy_74 : decode cX12_movesBy 74 = .ok (.imul, 1) := by decide +kernel
theorem dX12_movesBy_75 : decode cX12_movesBy 75 = .ok (.iload 6, 2) := by decide +kernel
theorem dX12_movesBy_77 : decode cX12_movesBy 77 = .ok (.iadd, 1) := by decide +kernel
theorem dX12_movesBy_78 : decode cX12_movesBy 78 = .ok (.iaload, 1) := by decide +kernel
theorem dX12_movesBy_79 : decode cX12_movesBy 79 = .ok (.iconst (-1), 1) := by decide +kernel
theorem dX12_movesBy_80 : decode cX12_movesBy 80 = .ok (.ixor, 1) := by decide +kernel
theorem dX12_movesBy_81 : decode cX12_movesBy 81 = .ok (.iand, 1) := by decide +kernel
theorem dX12_movesBy_82 : decode cX12_movesBy 82 = .ok (.invokestatic 284, 3) := by decide +kernel
theorem dX12_movesBy_85 : decode cX12_movesBy 85 = .ok (.iadd, 1) := by decide +kernel
theorem dX12_movesBy_86 : decode cX12_movesBy 86 = .ok (.istore_n 2, 1) := by decide +kernel
theorem dX12_movesBy_87 : decode cX12_movesBy 87 = .ok (.iinc 6 1, 3) := by decide +kernel
theorem dX12_movesBy_90 : decode cX12_movesBy 90 = .ok (.goto (-46), 3) := by decide +kernel
theorem dX12_movesBy_93 : decode cX12_movesBy 93 = .ok (.iload 5, 2) := by decide +kernel
theorem dX12_movesBy_95 : decode cX12_movesBy 95 = .ok (.istore_n 3, 1) := by decide +kernel
theorem dX12_movesBy_96 : decode cX12_movesBy 96 = .ok (.iinc 4 1, 3) := by decide +kernel
theorem dX12_movesBy_99 : decode cX12_movesBy 99 = .ok (.goto (-92), 3) := by decide +kernel
theorem dX12_movesBy_102 : decode cX12_movesBy 102 = .ok (.iload_n 2, 1) := by decide +kernel
theorem dX12_movesBy_103 : decode cX12_movesBy 103 = .ok (.ireturn, 1) := by decide +kernel
theorem dX12_order_8 : decode cX12_order 8 = .ok (.aload_n 0, 1) := by decide +kernel
theorem dX12_order_9 : decode cX12_order 9 = .ok (.getfield 310, 3) := by decide +kernel
theorem dX12_order_12 : decode cX12_order 12 = .ok (.ifCond .ne 5, 3) := by decide +kernel
theorem dX12_order_17 : decode cX12_order 17 = .ok (.iconst 0, 1) := by decide +kernel
theorem dX12_order_18 : decode cX12_order 18 = .ok (.istore_n 2, 1) := by decide +kernel
theorem dX12_order_19 : decode cX12_order 19 = .ok (.iload_n 2, 1) := by decide +kernel
theorem dX12_order_20 : decode cX12_order 20 = .ok (.iconst 1, 1) := by decide +kernel
theorem dX12_order_21 : decode cX12_order 21 = .ok (.aload_n 0, 1) := by decide +kernel
theorem dX12_order_22 : decode cX12_order 22 = .ok (.getfield 310, 3) := by decide +kernel
theorem dX12_order_25 : decode cX12_order 25 = .ok (.ishl, 1) := by decide +kernel
theorem dX12_order_26 : decode cX12_order 26 = .ok (.if_icmp .ge 73, 3) := by decide +kernel
theorem dX12_order_29 : decode cX12_order 29 = .ok (.aload_n 0, 1) := by decide +kernel
theorem dX12_order_30 : decode cX12_order 30 = .ok (.iload_n 1, 1) := by decide +kernel
theorem dX12_order_31 : decode cX12_order 31 = .ok (.iload_n 2, 1) := by decide +kernel
theorem dX12_order_32 : decode cX12_order 32 = .ok (.invokevirtual 316, 3) := by decide +kernel
theorem dX12_order_35 : decode cX12_order 35 = .ok (.ifCond .eq 58, 3) := by decide +kernel
theorem dX12_order_38 : decode cX12_order 38 = .ok (.aload_n 0, 1) := by decide +kernel
theorem dX12_order_39 : decode cX12_order 39 = .ok (.iload_n 1, 1) := by decide +kernel
theorem dX12_order_40 : decode cX12_order 40 = .ok (.aload_n 0, 1) := by decide +kernel
theorem dX12_order_41 : decode cX12_order 41 = .ok (.iload_n 1, 1) := by decide +kernel
theorem dX12_order_42 : decode cX12_order 42 = .ok (.iload_n 2, 1) := by decide +kernel
theorem dX12_order_43 : decode cX12_order 43 = .ok (.invokevirtual 316, 3) := by decide +kernel
theorem dX12_order_46 : decode cX12_order 46 = .ok (.aload_n 0, 1) := by decide +kernel
theorem dX12_order_47 : decode cX12_order 47 = .ok (.getfield 35, 3) := by decide +kernel
theorem dX12_order_50 : decode cX12_order 50 = .ok (.iload_n 1, 1) := by decide +kernel
theorem dX12_order_51 : decode cX12_order 51 = .ok (.iaload, 1) := by decide +kernel
theorem dX12_order_52 : decode cX12_order 52 = .ok (.invokevirtual 319, 3) := by decide +kernel
theorem dX12_order_55 : decode cX12_order 55 = .ok (.iconst 0, 1) := by decide +kernel
theorem dX12_order_56 : decode cX12_order 56 = .ok (.istore_n 3, 1) := by decide +kernel
theorem dX12_order_57 : decode cX12_order 57 = .ok (.iload_n 3, 1) := by decide +kernel
theorem dX12_order_58 : decode cX12_order 58 = .ok (.aload_n 0, 1) := by decide +kernel
theorem dX12_order_59 : decode cX12_order 59 = .ok (.getfield 133, 3) := by decide +kernel
theorem dX12_order_62 : decode cX12_order 62 = .ok (.if_icmp .ge 31, 3) := by decide +kernel
theorem dX12_order_65 : decode cX12_order 65 = .ok (.aload_n 0, 1) := by decide +kernel
theorem dX12_order_66 : decode cX12_order 66 = .ok (.bipush 10, 2) := by decide +kernel
theorem dX12_order_68 : decode cX12_order 68 = .ok (.iload_n 3, 1) := by decide +kernel
theorem dX12_order_69 : decode cX12_order 69 = .ok (.invokevirtual 269, 3) := by decide +kernel
theorem dX12_order_72 : decode cX12_order 72 = .ok (.aload_n 0, 1) := by decide +kernel
theorem dX12_order_73 : decode cX12_order 73 = .ok (.getfield 127, 3) := by decide +kernel
theorem dX12_order_76 : decode cX12_order 76 = .ok (.bipush 40, 2) := by decide +kernel
theorem dX12_order_78 : decode cX12_order 78 = .ok (.iload_n 2, 1) := by decide +kernel
theorem dX12_order_79 : decode cX12_order 79 = .ok (.imul, 1) := by decide +kernel
theorem dX12_order_80 : decode cX12_order 80 = .ok (.iload_n 3, 1) := by decide +kernel
theorem dX12_order_81 : decode cX12_order 81 = .ok (.iadd, 1) := by decide +kernel
theorem dX12_order_82 : decode cX12_order 82 = .ok (.aload_n 0, 1) := by decide +kernel
theorem dX12_order_83 : decode cX12_order 83 = .ok (.invokevirtual 281, 3) := by decide +kernel
theorem dX12_order_86 : decode cX12_order 86 = .ok (.iastore, 1) := by decide +kernel
theorem dX12_order_87 : decode cX12_order 87 = .ok (.iinc 3 1, 3) := by decide +kernel
theorem dX12_order_90 : decode cX12_order 90 = .ok (.goto (-33), 3) := by decide +kernel
theorem dX12_order_93 : decode cX12_order 93 = .ok (.iinc 2 1, 3) := by decide +kernel
theorem dX12_order_96 : decode cX12_order 96 = .ok (.goto (-77), 3) := by decide +kernel
theorem dX12_order_99 : decode cX12_order 99 = .ok (.iconst 0, 1) := by decide +kernel
theorem dX12_order_100 : decode cX12_order 100 = .ok (.istore_n 2, 1) := by decide +kernel
theorem dX12_order_101 : decode cX12_order 101 = .ok (.iload_n 2, 1) := by decide +kernel
theorem dX12_order_102 : decode cX12_order 102 = .ok (.aload_n 0, 1) := by decide +kernel
theorem dX12_order_103 : decode cX12_order 103 = .ok (.getfield 310, 3) := by decide +kernel
theorem dX12_order_106 : decode cX12_order 106 = .ok (.if_icmp .ge 16, 3) := by decide +kernel
theorem dX12_order_109 : decode cX12_order 109 = .ok (.aload_n 0, 1) := by decide +kernel
theorem dX12_order_110 : decode cX12_order 110 = .ok (.getfield 130, 3) := by decide +kernel
theorem dX12_order_113 : decode cX12_order 113 = .ok (.iload_n 2, 1) := by decide +kernel
theorem dX12_order_114 : decode cX12_order 114 = .ok (.iload_n 2, 1) := by decide +kernel
theorem dX12_order_115 : decode cX12_order 115 = .ok (.iastore, 1) := by decide +kernel
theorem dX12_order_116 : decode cX12_order 116 = .ok (.iinc 2 1, 3) := by decide +kernel
theorem dX12_order_119 : decode cX12_order 119 = .ok (.goto (-18), 3) := by decide +kernel
theorem dX12_order_122 : decode cX12_order 122 = .ok (.iconst (-1), 1) := by decide +kernel
theorem dX12_order_123 : decode cX12_order 123 = .ok (.istore_n 2, 1) := by decide +kernel
theorem dX12_order_124 : decode cX12_order 124 = .ok (.iconst 1, 1) := by decide +kernel
theorem dX12_order_125 : decode cX12_order 125 = .ok (.istore_n 3, 1) := by decide +kernel
theorem dX12_order_126 : decode cX12_order 126 = .ok (.iload_n 3, 1) := by decide +kernel
theorem dX12_order_127 : decode cX12_order 127 = .ok (.ifCond .eq 80, 3) := by decide +kernel
theorem dX12_order_130 : decode cX12_order 130 = .ok (.aload_n 0, 1) := by decide +kernel
theorem dX12_order_131 : decode cX12_order 131 = .ok (.iload_n 1, 1) := by decide +kernel
theorem dX12_order_132 : decode cX12_order 132 = .ok (.invokevirtual 322, 3) := by decide +kernel
theorem dX12_order_135 : decode cX12_order 135 = .ok (.istore 4, 2) := by decide +kernel
theorem dX12_order_137 : decode cX12_order 137 = .ok (.iload 4, 2) := by decide +kernel
theorem dX12_order_139 : decode cX12_order 139 = .ok (.ifCond .lt 56, 3) := by decide +kernel
theorem dX12_order_142 : decode cX12_order 142 = .ok (.iload_n 2, 1) := by decide +kernel
theorem dX12_order_143 : decode cX12_order 143 = .ok (.ifCond .lt 9, 3) := by decide +kernel
theorem dX12_order_146 : decode cX12_order 146 = .ok (.iload 4, 2) := by decide +kernel
theorem dX12_order_148 : decode cX12_order 148 = .ok (.iload_n 2, 1) := by decide +kernel
theorem dX12_order_149 : decode cX12_order 149 = .ok (.if_icmp .ge 46, 3) := by decide +kernel
theorem dX12_order_152 : decode cX12_order 152 = .ok (.iload 4, 2) := by decide +kernel
theorem dX12_order_154 : decode cX12_order 154 = .ok (.istore_n 2, 1) := by decide +kernel
theorem dX12_order_155 : decode cX12_order 155 = .ok (.aload_n 0, 1) := by decide +kernel
theorem dX12_order_156 : decode cX12_order 156 = .ok (.aload_n 0, 1) := by decide +kernel
theorem dX12_order_157 : decode cX12_order 157 = .ok (.getfield 310, 3) := by decide +kernel
theorem dX12_order_160 : decode cX12_order 160 = .ok (.putfield 325, 3) := by decide +kernel
theorem dX12_order_163 : decode cX12_order 163 = .ok (.iconst 0, 1) := by decide +kernel
theorem dX12_order_164 : decode cX12_order 164 = .ok (.istore 5, 2) := by decide +kernel
theorem dX12_order_166 : decode cX12_order 166 = .ok (.iload 5, 2) := by decide +kernel
theorem dX12_order_168 : decode cX12_order 168 = .ok (.aload_n 0, 1) := by decide +kernel
theorem dX12_order_169 : decode cX12_order 169 = .ok (.getfield 310, 3) := by decide +kernel
theorem dX12_order_172 : decode cX12_order 172 = .ok (.if_icmp .ge 23, 3) := by decide +kernel
theorem dX12_order_175 : decode cX12_order 175 = .ok (.aload_n 0, 1) := by decide +kernel
theorem dX12_order_176 : decode cX12_order 176 = .ok (.getfield 89, 3) := by decide +kernel
theorem dX12_order_179 : decode cX12_order 179 = .ok (.iload 5, 2) := by decide +kernel
theorem dX12_order_181 : decode cX12_order 181 = .ok (.aload_n 0, 1) := by decide +kernel
theorem dX12_order_182 : decode cX12_order 182 = .ok (.getfield 130, 3) := by decide +kernel
theorem dX12_order_185 : decode cX12_order 185 = .ok (.iload 5, 2) := by decide +kernel
theorem dX12_order_187 : decode cX12_order 187 = .ok (.iaload, 1) := by decide +kernel
theorem dX12_order_188 : decode cX12_order 188 = .ok (.iastore, 1) := by decide +kernel
theorem dX12_order_189 : decode cX12_order 189 = .ok (.iinc 5 1, 3) := by decide +kernel
theorem dX12_order_192 : decode cX12_order 192 = .ok (.goto (-26), 3) := by decide +kernel
theorem dX12_order_195 : decode cX12_order 195 = .ok (.aload_n 0, 1) := by decide +kernel
theorem dX12_order_196 : decode cX12_order 196 = .ok (.aload_n 0, 1) := by decide +kernel
theorem dX12_order_197 : decode cX12_order 197 = .ok (.getfield 310, 3) := by decide +kernel
theorem dX12_order_200 : decode cX12_order 200 = .ok (.invokevirtual 328, 3) := by decide +kernel
theorem dX12_order_203 : decode cX12_order 203 = .ok (.istore_n 3, 1) := by decide +kernel
theorem dX12_order_204 : decode cX12_order 204 = .ok (.goto (-78), 3) := by decide +kernel
theorem dX12_order_207 : decode cX12_order 207 = .ok (.iload_n 2, 1) := by decide +kernel
theorem dX12_order_208 : decode cX12_order 208 = .ok (.ifCond .ge 6, 3) := by decide +kernel
theorem dX12_order_211 : decode cX12_order 211 = .ok (.bipush (-2), 2) := by decide +kernel
theorem dX12_order_213 : decode cX12_order 213 = .ok (.ireturn, 1) := by decide +kernel
theorem dX12_order_214 : decode cX12_order 214 = .ok (.aload_n 0, 1) := by decide +kernel
theorem dX12_order_215 : decode cX12_order 215 = .ok (.iconst 0, 1) := by decide +kernel
theorem dX12_order_216 : decode cX12_order 216 = .ok (.putfield 310, 3) := by decide +kernel
theorem dX12_order_219 : decode cX12_order 219 = .ok (.iload_n 2, 1) := by decide +kernel
theorem dX12_order_220 : decode cX12_order 220 = .ok (.ireturn, 1) := by decide +kernel
theorem dX12_ordered_14 : decode cX12_ordered 14 = .ok (.aload_n 0, 1) := by decide +kernel
theorem dX12_ordered_15 : decode cX12_ordered 15 = .ok (.getfield 89, 3) := by decide +kernel
theorem dX12_ordered_18 : decode cX12_ordered 18 = .ok (.iload_n 1, 1) := by decide +kernel
theorem dX12_ordered_19 : decode cX12_ordered 19 = .ok (.iaload, 1) := by decide +kernel
theorem dX12_ordered_20 : decode cX12_ordered 20 = .ok (.goto 4, 3) := by decide +kernel
theorem dX12_turning_9 : decode cX12_turning 9 = .ok (.bipush (-3), 2) := by decide +kernel
theorem dX12_turning_11 : decode cX12_turning 11 = .ok (.ireturn, 1) := by decide +kernel
theorem dX12_harm_8 : decode cX12_harm 8 = .ok (.aload_n 0, 1) := by decide +kernel
theorem dX12_harm_9 : decode cX12_harm 9 = .ok (.getfield 331, 3) := by decide +kernel
theorem dX12_harm_12 : decode cX12_harm 12 = .ok (.ifCond .ne 5, 3) := by decide +kernel
theorem dX12_harm_17 : decode cX12_harm 17 = .ok (.iconst (-1), 1) := by decide +kernel
theorem dX12_harm_18 : decode cX12_harm 18 = .ok (.istore_n 2, 1) := by decide +kernel
theorem dX12_harm_19 : decode cX12_harm 19 = .ok (.iconst 0, 1) := by decide +kernel
theorem dX12_harm_20 : decode cX12_harm 20 = .ok (.istore_n 3, 1) := by decide +kernel
theorem dX12_harm_21 : decode cX12_harm 21 = .ok (.iload_n 3, 1) := by decide +kernel
theorem dX12_harm_22 : decode cX12_harm 22 = .ok (.aload_n 0, 1) := by decide +kernel
theorem dX12_harm_23 : decode cX12_harm 23 = .ok (.getfield 331, 3) := by decide +kernel
theorem dX12_harm_26 : decode cX12_harm 26 = .ok (.if_icmp .ge 109, 3) := by decide +kernel
theorem dX12_harm_29 : decode cX12_harm 29 = .ok (.aload_n 0, 1) := by decide +kernel
theorem dX12_harm_30 : decode cX12_harm 30 = .ok (.iload_n 1, 1) := by decide +kernel
theorem dX12_harm_31 : decode cX12_harm 31 = .ok (.aload_n 0, 1) := by decide +kernel
theorem dX12_harm_32 : decode cX12_harm 32 = .ok (.getfield 32, 3) := by decide +kernel
theorem dX12_harm_35 : decode cX12_harm 35 = .ok (.iload_n 1, 1) := by decide +kernel
theorem dX12_harm_36 : decode cX12_harm 36 = .ok (.iaload, 1) := by decide +kernel
theorem dX12_harm_37 : decode cX12_harm 37 = .ok (.aload_n 0, 1) := by decide +kernel
theorem dX12_harm_38 : decode cX12_harm 38 = .ok (.getfield 92, 3) := by decide +kernel
theorem dX12_harm_41 : decode cX12_harm 41 = .ok (.iload_n 3, 1) := by decide +kernel
theorem dX12_harm_42 : decode cX12_harm 42 = .ok (.iaload, 1) := by decide +kernel
theorem dX12_harm_43 : decode cX12_harm 43 = .ok (.invokevirtual 319, 3) := by decide +kernel
theorem dX12_harm_46 : decode cX12_harm 46 = .ok (.iconst 0, 1) := by decide +kernel
theorem dX12_harm_47 : decode cX12_harm 47 = .ok (.istore 4, 2) := by decide +kernel
theorem dX12_harm_49 : decode cX12_harm 49 = .ok (.iconst 0, 1) := by decide +kernel
theorem dX12_harm_50 : decode cX12_harm 50 = .ok (.istore 5, 2) := by decide +kernel
theorem dX12_harm_52 : decode cX12_harm 52 = .ok (.iload 5, 2) := by decide +kernel
theorem dX12_harm_54 : decode cX12_harm 54 = .ok (.aload_n 0, 1) := by decide +kernel
theorem dX12_harm_55 : decode cX12_harm 55 = .ok (.getfield 140, 3) := by decide +kernel
theorem dX12_harm_58 : decode cX12_harm 58 = .ok (.if_icmp .ge 50, 3) := by decide +kernel
theorem dX12_harm_61 : decode cX12_harm 61 = .ok (.aload_n 0, 1) := by decide +kernel
theorem dX12_harm_62 : decode cX12_harm 62 = .ok (.bipush 10, 2) := by decide +kernel
theorem dX12_harm_64 : decode cX12_harm 64 = .ok (.iload 5, 2) := by decide +kernel
theorem dX12_harm_66 : decode cX12_harm 66 = .ok (.invokevirtual 223, 3) := by decide +kernel
theorem dX12_harm_69 : decode cX12_harm 69 = .ok (.ifCond .eq 14, 3) := by decide +kernel
theorem dX12_harm_72 : decode cX12_harm 72 = .ok (.aload_n 0, 1) := by decide +kernel
theorem dX12_harm_73 : decode cX12_harm 73 = .ok (.bipush 10, 2) := by decide +kernel
theorem dX12_harm_75 : decode cX12_harm 75 = .ok (.iload 5, 2) := by decide +kernel
theorem dX12_harm_77 : decode cX12_harm 77 = .ok (.invokevirtual 272, 3) := by decide +kernel
theorem dX12_harm_80 : decode cX12_harm 80 = .ok (.goto 4, 3) := by decide +kernel
theorem dX12_harm_83 : decode cX12_harm 83 = .ok (.iconst 0, 1) := by decide +kernel
theorem dX12_harm_84 : decode cX12_harm 84 = .ok (.istore 6, 2) := by decide +kernel
theorem dX12_harm_86 : decode cX12_harm 86 = .ok (.iload 6, 2) := by decide +kernel
theorem dX12_harm_88 : decode cX12_harm 88 = .ok (.iload 4, 2) := by decide +kernel
theorem dX12_harm_90 : decode cX12_harm 90 = .ok (.if_icmp .le 8, 3) := by decide +kernel
theorem dX12_harm_93 : decode cX12_harm 93 = .ok (.iload 6, 2) := by decide +kernel
theorem dX12_harm_95 : decode cX12_harm 95 = .ok (.goto 5, 3) := by decide +kernel
theorem dX12_harm_98 : decode cX12_harm 98 = .ok (.iload 4, 2) := by decide +kernel
theorem dX12_harm_100 : decode cX12_harm 100 = .ok (.istore 4, 2) := by decide +kernel
theorem dX12_harm_102 : decode cX12_harm 102 = .ok (.iinc 5 1, 3) := by decide +kernel
theorem dX12_harm_105 : decode cX12_harm 105 = .ok (.goto (-53), 3) := by decide +kernel
theorem dX12_harm_108 : decode cX12_harm 108 = .ok (.iload_n 2, 1) := by decide +kernel
theorem dX12_harm_109 : decode cX12_harm 109 = .ok (.ifCond .lt 12, 3) := by decide +kernel
theorem dX12_harm_112 : decode cX12_harm 112 = .ok (.iload 4, 2) := by decide +kernel
theorem dX12_harm_114 : decode cX12_harm 114 = .ok (.aload_n 0, 1) := by decide +kernel
theorem dX12_harm_115 : decode cX12_harm 115 = .ok (.getfield 95, 3) := by decide +kernel
theorem dX12_harm_118 : decode cX12_harm 118 = .ok (.if_icmp .ge 11, 3) := by decide +kernel
theorem dX12_harm_121 : decode cX12_harm 121 = .ok (.iload_n 3, 1) := by decide +kernel
theorem dX12_harm_122 : decode cX12_harm 122 = .ok (.istore_n 2, 1) := by decide +kernel
theorem dX12_harm_123 : decode cX12_harm 123 = .ok (.aload_n 0, 1) := by decide +kernel
theorem dX12_harm_124 : decode cX12_harm 124 = .ok (.iload 4, 2) := by decide +kernel
theorem dX12_harm_126 : decode cX12_harm 126 = .ok (.putfield 95, 3) := by decide +kernel
theorem dX12_harm_129 : decode cX12_harm 129 = .ok (.iinc 3 1, 3) := by decide +kernel
theorem dX12_harm_132 : decode cX12_harm 132 = .ok (.goto (-111), 3) := by decide +kernel
theorem dX12_harm_135 : decode cX12_harm 135 = .ok (.aload_n 0, 1) := by decide +kernel
theorem dX12_harm_136 : decode cX12_harm 136 = .ok (.iconst 0, 1) := by decide +kernel
theorem dX12_harm_137 : decode cX12_harm 137 = .ok (.putfield 331, 3) := by decide +kernel
theorem dX12_harm_140 : decode cX12_harm 140 = .ok (.iload_n 2, 1) := by decide +kernel
theorem dX12_harm_141 : decode cX12_harm 141 = .ok (.ireturn, 1) := by decide +kernel
theorem dX12_begins_0 : decode cX12_begins 0 = .ok (.aload_n 0, 1) := by decide +kernel
theorem dX12_begins_1 : decode cX12_begins 1 = .ok (.getfield 334, 3) := by decide +kernel
theorem dX12_begins_4 : decode cX12_begins 4 = .ok (.bipush 24, 2) := by decide +kernel
theorem dX12_begins_6 : decode cX12_begins 6 = .ok (.if_icmp .ge 13, 3) := by decide +kernel
theorem dX12_begins_9 : decode cX12_begins 9 = .ok (.aload_n 0, 1) := by decide +kernel
theorem dX12_begins_10 : decode cX12_begins 10 = .ok (.getfield 99, 3) := by decide +kernel
theorem dX12_begins_13 : decode cX12_begins 13 = .ok (.aload_n 0, 1) := by decide +kernel
theorem dX12_begins_14 : decode cX12_begins 14 = .ok (.getfield 334, 3) := by decide +kernel
theorem dX12_begins_17 : decode cX12_begins 17 = .ok (.iload_n 1, 1) := by decide +kernel
theorem dX12_begins_18 : decode cX12_begins 18 = .ok (.iastore, 1) := by decide +kernel
theorem dX12_begins_19 : decode cX12_begins 19 = .ok (.aload_n 0, 1) := by decide +kernel
theorem dX12_begins_20 : decode cX12_begins 20 = .ok (.dup, 1) := by decide +kernel
theorem dX12_begins_21 : decode cX12_begins 21 = .ok (.getfield 334, 3) := by decide +kernel
theorem dX12_begins_24 : decode cX12_begins 24 = .ok (.iconst 1, 1) := by decide +kernel
theorem dX12_begins_25 : decode cX12_begins 25 = .ok (.iadd, 1) := by decide +kernel
theorem dX12_begins_26 : decode cX12_begins 26 = .ok (.putfield 334, 3) := by decide +kernel
theorem dX12_begins_29 : decode cX12_begins 29 = .ok (.return_, 1) := by decide +kernel
theorem dX12_aboveOf_0 : decode cX12_aboveOf 0 = .ok (.iload_n 0, 1) := by decide +kernel
theorem dX12_aboveOf_1 : decode cX12_aboveOf 1 = .ok (.bipush 6, 2) := by decide +kernel
theorem dX12_aboveOf_3 : decode cX12_aboveOf 3 = .ok (.if_icmp .ne 7, 3) := by decide +kernel
theorem dX12_aboveOf_6 : decode cX12_aboveOf 6 = .ok (.iconst 1, 1) := by decide +kernel
theorem dX12_aboveOf_7 : decode cX12_aboveOf 7 = .ok (.goto 4, 3) := by decide +kernel
theorem dX12_aboveOf_10 : decode cX12_aboveOf 10 = .ok (.iconst 0, 1) := by decide +kernel
theorem dX12_aboveOf_11 : decode cX12_aboveOf 11 = .ok (.ireturn, 1) := by decide +kernel
theorem dX12_findsFrom_0 : decode cX12_findsFrom 0 = .ok (.iload_n 2, 1) := by decide +kernel
theorem dX12_findsFrom_1 : decode cX12_findsFrom 1 = .ok (.tableswitch 105 0 6 #[43, 52, 105, 105, 105, 73, 89], 43) := by decide +kernel
theorem dX12_findsFrom_44 : decode cX12_findsFrom 44 = .ok (.aload_n 0, 1) := by decide +kernel
theorem dX12_findsFrom_45 : decode cX12_findsFrom 45 = .ok (.iconst 1, 1) := by decide +kernel
theorem dX12_findsFrom_46 : decode cX12_findsFrom 46 = .ok (.invokevirtual 337, 3) := by decide +kernel
theorem dX12_findsFrom_49 : decode cX12_findsFrom 49 = .ok (.iload_n 3, 1) := by decide +kernel
theorem dX12_findsFrom_50 : decode cX12_findsFrom 50 = .ok (.iload_n 1, 1) := by decide +kernel
theorem dX12_findsFrom_51 : decode cX12_findsFrom 51 = .ok (.iadd, 1) := by decide +kernel
theorem dX12_findsFrom_52 : decode cX12_findsFrom 52 = .ok (.ireturn, 1) := by decide +kernel
theorem dX12_findsFrom_53 : decode cX12_findsFrom 53 = .ok (.aload_n 0, 1) := by decide +kernel
theorem dX12_findsFrom_54 : decode cX12_findsFrom 54 = .ok (.bipush 20, 2) := by decide +kernel
theorem dX12_findsFrom_56 : decode cX12_findsFrom 56 = .ok (.invokevirtual 337, 3) := by decide +kernel
theorem dX12_findsFrom_59 : decode cX12_findsFrom 59 = .ok (.aload_n 0, 1) := by decide +kernel
theorem dX12_findsFrom_60 : decode cX12_findsFrom 60 = .ok (.iload_n 1, 1) := by decide +kernel
theorem dX12_findsFrom_61 : decode cX12_findsFrom 61 = .ok (.iconst 0, 1) := by decide +kernel
theorem dX12_findsFrom_62 : decode cX12_findsFrom 62 = .ok (.iload_n 3, 1) := by decide +kernel
theorem dX12_findsFrom_63 : decode cX12_findsFrom 63 = .ok (.invokevirtual 340, 3) := by decide +kernel
theorem dX12_findsFrom_66 : decode cX12_findsFrom 66 = .ok (.aload_n 0, 1) := by decide +kernel
theorem dX12_findsFrom_67 : decode cX12_findsFrom 67 = .ok (.getfield 19, 3) := by decide +kernel
theorem dX12_findsFrom_70 : decode cX12_findsFrom 70 = .ok (.iload_n 1, 1) := by decide +kernel
theorem dX12_findsFrom_71 : decode cX12_findsFrom 71 = .ok (.iaload, 1) := by decide +kernel
theorem dX12_findsFrom_72 : decode cX12_findsFrom 72 = .ok (.iadd, 1) := by decide +kernel
theorem dX12_findsFrom_73 : decode cX12_findsFrom 73 = .ok (.ireturn, 1) := by decide +kernel
theorem dX12_findsFrom_74 : decode cX12_findsFrom 74 = .ok (.aload_n 0, 1) := by decide +kernel
theorem dX12_findsFrom_75 : decode cX12_findsFrom 75 = .ok (.bipush 60, 2) := by decide +kernel
theorem dX12_findsFrom_77 : decode cX12_findsFrom 77 = .ok (.invokevirtual 337, 3) := by decide +kernel
theorem dX12_findsFrom_80 : decode cX12_findsFrom 80 = .ok (.aload_n 0, 1) := by decide +kernel
theorem dX12_findsFrom_81 : decode cX12_findsFrom 81 = .ok (.iload_n 1, 1) := by decide +kernel
theorem dX12_findsFrom_82 : decode cX12_findsFrom 82 = .ok (.iconst 0, 1) := by decide +kernel
theorem dX12_findsFrom_83 : decode cX12_findsFrom 83 = .ok (.iload_n 3, 1) := by decide +kernel
theorem dX12_findsFrom_84 : decode cX12_findsFrom 84 = .ok (.iconst 1, 1) := by decide +kernel
theorem dX12_findsFrom_85 : decode cX12_findsFrom 85 = .ok (.iadd, 1) := by decide +kernel
theorem dX12_findsFrom_86 : decode cX12_findsFrom 86 = .ok (.invokevirtual 340, 3) := by decide +kernel
theorem dX12_findsFrom_89 : decode cX12_findsFrom 89 = .ok (.ireturn, 1) := by decide +kernel
theorem dX12_findsFrom_90 : decode cX12_findsFrom 90 = .ok (.aload_n 0, 1) := by decide +kernel
theorem dX12_findsFrom_91 : decode cX12_findsFrom 91 = .ok (.bipush 71, 2) := by decide +kernel
theorem dX12_findsFrom_93 : decode cX12_findsFrom 93 = .ok (.invokevirtual 337, 3) := by decide +kernel
theorem dX12_findsFrom_96 : decode cX12_findsFrom 96 = .ok (.aload_n 0, 1) := by decide +kernel
theorem dX12_findsFrom_97 : decode cX12_findsFrom 97 = .ok (.iload_n 1, 1) := by decide +kernel
theorem dX12_findsFrom_98 : decode cX12_findsFrom 98 = .ok (.iconst 1, 1) := by decide +kernel
theorem dX12_findsFrom_99 : decode cX12_findsFrom 99 = .ok (.iload_n 3, 1) := by decide +kernel
theorem dX12_findsFrom_100 : decode cX12_findsFrom 100 = .ok (.invokevirtual 340, 3) := by decide +kernel
theorem dX12_findsFrom_103 : decode cX12_findsFrom 103 = .ok (.iconst 2, 1) := by decide +kernel
theorem dX12_findsFrom_104 : decode cX12_findsFrom 104 = .ok (.imul, 1) := by decide +kernel
theorem dX12_findsFrom_105 : decode cX12_findsFrom 105 = .ok (.ireturn, 1) := by decide +kernel
theorem dX12_findsFrom_106 : decode cX12_findsFrom 106 = .ok (.aload_n 0, 1) := by decide +kernel
theorem dX12_findsFrom_107 : decode cX12_findsFrom 107 = .ok (.iload_n 1, 1) := by decide +kernel
theorem dX12_findsFrom_108 : decode cX12_findsFrom 108 = .ok (.iload_n 2, 1) := by decide +kernel
theorem dX12_findsFrom_109 : decode cX12_findsFrom 109 = .ok (.invokestatic 343, 3) := by decide +kernel
theorem dX12_findsFrom_112 : decode cX12_findsFrom 112 = .ok (.iload_n 3, 1) := by decide +kernel
theorem dX12_findsFrom_113 : decode cX12_findsFrom 113 = .ok (.invokevirtual 340, 3) := by decide +kernel
theorem dX12_findsFrom_116 : decode cX12_findsFrom 116 = .ok (.ireturn, 1) := by decide +kernel
theorem dX12_keepsFrom_0 : decode cX12_keepsFrom 0 = .ok (.iload_n 2, 1) := by decide +kernel
theorem dX12_keepsFrom_1 : decode cX12_keepsFrom 1 = .ok (.lookupswitch 97 #[(0, 35), (3, 56), (6, 71)], 35) := by decide +kernel
theorem dX12_keepsFrom_36 : decode cX12_keepsFrom 36 = .ok (.aload_n 0, 1) := by decide +kernel
theorem dX12_keepsFrom_37 : decode cX12_keepsFrom 37 = .ok (.bipush 10, 2) := by decide +kernel
theorem dX12_keepsFrom_39 : decode cX12_keepsFrom 39 = .ok (.invokevirtual 337, 3) := by decide +kernel
theorem dX12_keepsFrom_42 : decode cX12_keepsFrom 42 = .ok (.aload_n 0, 1) := by decide +kernel
theorem dX12_keepsFrom_43 : decode cX12_keepsFrom 43 = .ok (.iload_n 1, 1) := by decide +kernel
theorem dX12_keepsFrom_44 : decode cX12_keepsFrom 44 = .ok (.aload_n 0, 1) := by decide +kernel
theorem dX12_keepsFrom_45 : decode cX12_keepsFrom 45 = .ok (.getfield 22, 3) := by decide +kernel
theorem dX12_keepsFrom_48 : decode cX12_keepsFrom 48 = .ok (.iload_n 1, 1) := by decide +kernel
theorem dX12_keepsFrom_49 : decode cX12_keepsFrom 49 = .ok (.iaload, 1) := by decide +kernel
theorem dX12_keepsFrom_50 : decode cX12_keepsFrom 50 = .ok (.iload_n 3, 1) := by decide +kernel
theorem dX12_keepsFrom_51 : decode cX12_keepsFrom 51 = .ok (.invokevirtual 340, 3) := by decide +kernel
theorem dX12_keepsFrom_54 : decode cX12_keepsFrom 54 = .ok (.iconst 2, 1) := by decide +kernel
theorem dX12_keepsFrom_55 : decode cX12_keepsFrom 55 = .ok (.imul, 1) := by decide +kernel
theorem dX12_keepsFrom_56 : decode cX12_keepsFrom 56 = .ok (.ireturn, 1) := by decide +kernel
theorem dX12_keepsFrom_57 : decode cX12_keepsFrom 57 = .ok (.aload_n 0, 1) := by decide +kernel
theorem dX12_keepsFrom_58 : decode cX12_keepsFrom 58 = .ok (.bipush 40, 2) := by decide +kernel
theorem dX12_keepsFrom_60 : decode cX12_keepsFrom 60 = .ok (.invokevirtual 337, 3) := by decide +kernel
theorem dX12_keepsFrom_63 : decode cX12_keepsFrom 63 = .ok (.aload_n 0, 1) := by decide +kernel
theorem dX12_keepsFrom_64 : decode cX12_keepsFrom 64 = .ok (.iload_n 1, 1) := by decide +kernel
theorem dX12_keepsFrom_65 : decode cX12_keepsFrom 65 = .ok (.iconst 0, 1) := by decide +kernel
theorem dX12_keepsFrom_66 : decode cX12_keepsFrom 66 = .ok (.iload_n 3, 1) := by decide +kernel
theorem dX12_keepsFrom_67 : decode cX12_keepsFrom 67 = .ok (.invokevirtual 346, 3) := by decide +kernel
theorem dX12_keepsFrom_70 : decode cX12_keepsFrom 70 = .ok (.ineg, 1) := by decide +kernel
theorem dX12_keepsFrom_71 : decode cX12_keepsFrom 71 = .ok (.ireturn, 1) := by decide +kernel
theorem dX12_keepsFrom_72 : decode cX12_keepsFrom 72 = .ok (.aload_n 0, 1) := by decide +kernel
theorem dX12_keepsFrom_73 : decode cX12_keepsFrom 73 = .ok (.bipush 70, 2) := by decide +kernel
theorem dX12_keepsFrom_75 : decode cX12_keepsFrom 75 = .ok (.invokevirtual 337, 3) := by decide +kernel
theorem dX12_keepsFrom_78 : decode cX12_keepsFrom 78 = .ok (.aload_n 0, 1) := by decide +kernel
theorem dX12_keepsFrom_79 : decode cX12_keepsFrom 79 = .ok (.iload_n 1, 1) := by decide +kernel
theorem dX12_keepsFrom_80 : decode cX12_keepsFrom 80 = .ok (.iconst 1, 1) := by decide +kernel
theorem dX12_keepsFrom_81 : decode cX12_keepsFrom 81 = .ok (.iload_n 3, 1) := by decide +kernel
theorem dX12_keepsFrom_82 : decode cX12_keepsFrom 82 = .ok (.invokevirtual 346, 3) := by decide +kernel
theorem dX12_keepsFrom_85 : decode cX12_keepsFrom 85 = .ok (.istore 4, 2) := by decide +kernel
theorem dX12_keepsFrom_87 : decode cX12_keepsFrom 87 = .ok (.iload 4, 2) := by decide +kernel
theorem dX12_keepsFrom_89 : decode cX12_keepsFrom 89 = .ok (.aload_n 0, 1) := by decide +kernel
theorem dX12_keepsFrom_90 : decode cX12_keepsFrom 90 = .ok (.iload_n 1, 1) := by decide +kernel
theorem dX12_keepsFrom_91 : decode cX12_keepsFrom 91 = .ok (.iconst 1, 1) := by decide +kernel
theorem dX12_keepsFrom_92 : decode cX12_keepsFrom 92 = .ok (.iload_n 3, 1) := by decide +kernel
theorem dX12_keepsFrom_93 : decode cX12_keepsFrom 93 = .ok (.invokevirtual 349, 3) := by decide +kernel
theorem dX12_keepsFrom_96 : decode cX12_keepsFrom 96 = .ok (.iadd, 1) := by decide +kernel
theorem dX12_keepsFrom_97 : decode cX12_keepsFrom 97 = .ok (.ireturn, 1) := by decide +kernel
theorem dX12_keepsFrom_98 : decode cX12_keepsFrom 98 = .ok (.aload_n 0, 1) := by decide +kernel
theorem dX12_keepsFrom_99 : decode cX12_keepsFrom 99 = .ok (.iload_n 1, 1) := by decide +kernel
theorem dX12_keepsFrom_100 : decode cX12_keepsFrom 100 = .ok (.iload_n 2, 1) := by decide +kernel
theorem dX12_keepsFrom_101 : decode cX12_keepsFrom 101 = .ok (.invokestatic 343, 3) := by decide +kernel
theorem dX12_keepsFrom_104 : decode cX12_keepsFrom 104 = .ok (.iload_n 3, 1) := by decide +kernel
theorem dX12_keepsFrom_105 : decode cX12_keepsFrom 105 = .ok (.invokevirtual 346, 3) := by decide +kernel
theorem dX12_keepsFrom_108 : decode cX12_keepsFrom 108 = .ok (.ireturn, 1) := by decide +kernel
theorem dX12_movesFrom_0 : decode cX12_movesFrom 0 = .ok (.iload_n 2, 1) := by decide +kernel
theorem dX12_movesFrom_1 : decode cX12_movesFrom 1 = .ok (.lookupswitch 92 #[(0, 35), (2, 45), (5, 61)], 35) := by decide +kernel
theorem dX12_movesFrom_36 : decode cX12_movesFrom 36 = .ok (.aload_n 0, 1) := by decide +kernel
theorem dX12_movesFrom_37 : decode cX12_movesFrom 37 = .ok (.bipush 11, 2) := by decide +kernel
theorem dX12_movesFrom_39 : decode cX12_movesFrom 39 = .ok (.invokevirtual 337, 3) := by decide +kernel
theorem dX12_movesFrom_42 : decode cX12_movesFrom 42 = .ok (.iload_n 3, 1) := by decide +kernel
theorem dX12_movesFrom_43 : decode cX12_movesFrom 43 = .ok (.iload_n 1, 1) := by decide +kernel
theorem dX12_movesFrom_44 : decode cX12_movesFrom 44 = .ok (.ixor, 1) := by decide +kernel
theorem dX12_movesFrom_45 : decode cX12_movesFrom 45 = .ok (.ireturn, 1) := by decide +kernel
theorem dX12_movesFrom_46 : decode cX12_movesFrom 46 = .ok (.aload_n 0, 1) := by decide +kernel
theorem dX12_movesFrom_47 : decode cX12_movesFrom 47 = .ok (.bipush 30, 2) := by decide +kernel
theorem dX12_movesFrom_49 : decode cX12_movesFrom 49 = .ok (.invokevirtual 337, 3) := by decide +kernel
theorem dX12_movesFrom_52 : decode cX12_movesFrom 52 = .ok (.aload_n 0, 1) := by decide +kernel
theorem dX12_movesFrom_53 : decode cX12_movesFrom 53 = .ok (.iload_n 1, 1) := by decide +kernel
theorem dX12_movesFrom_54 : decode cX12_movesFrom 54 = .ok (.iconst 0, 1) := by decide +kernel
theorem dX12_movesFrom_55 : decode cX12_movesFrom 55 = .ok (.iload_n 3, 1) := by decide +kernel
theorem dX12_movesFrom_56 : decode cX12_movesFrom 56 = .ok (.invokevirtual 349, 3) := by decide +kernel
theorem dX12_movesFrom_59 : decode cX12_movesFrom 59 = .ok (.iconst 3, 1) := by decide +kernel
theorem dX12_movesFrom_60 : decode cX12_movesFrom 60 = .ok (.imul, 1) := by decide +kernel
theorem dX12_movesFrom_61 : decode cX12_movesFrom 61 = .ok (.ireturn, 1) := by decide +kernel
theorem dX12_movesFrom_62 : decode cX12_movesFrom 62 = .ok (.aload_n 0, 1) := by decide +kernel
theorem dX12_movesFrom_63 : decode cX12_movesFrom 63 = .ok (.bipush 61, 2) := by decide +kernel
theorem dX12_movesFrom_65 : decode cX12_movesFrom 65 = .ok (.invokevirtual 337, 3) := by decide +kernel
theorem dX12_movesFrom_68 : decode cX12_movesFrom 68 = .ok (.aload_n 0, 1) := by decide +kernel
theorem dX12_movesFrom_69 : decode cX12_movesFrom 69 = .ok (.iload_n 1, 1) := by decide +kernel
theorem dX12_movesFrom_70 : decode cX12_movesFrom 70 = .ok (.iconst 0, 1) := by decide +kernel
theorem dX12_movesFrom_71 : decode cX12_movesFrom 71 = .ok (.iload_n 3, 1) := by decide +kernel
theorem dX12_movesFrom_72 : decode cX12_movesFrom 72 = .ok (.invokevirtual 349, 3) := by decide +kernel
theorem dX12_movesFrom_75 : decode cX12_movesFrom 75 = .ok (.istore 4, 2) := by decide +kernel
theorem dX12_movesFrom_77 : decode cX12_movesFrom 77 = .ok (.iload 4, 2) := by decide +kernel
theorem dX12_movesFrom_79 : decode cX12_movesFrom 79 = .ok (.aload_n 0, 1) := by decide +kernel
theorem dX12_movesFrom_80 : decode cX12_movesFrom 80 = .ok (.iload_n 1, 1) := by decide +kernel
theorem dX12_movesFrom_81 : decode cX12_movesFrom 81 = .ok (.aload_n 0, 1) := by decide +kernel
theorem dX12_movesFrom_82 : decode cX12_movesFrom 82 = .ok (.getfield 22, 3) := by decide +kernel
theorem dX12_movesFrom_85 : decode cX12_movesFrom 85 = .ok (.iload_n 1, 1) := by decide +kernel
theorem dX12_movesFrom_86 : decode cX12_movesFrom 86 = .ok (.iaload, 1) := by decide +kernel
theorem dX12_movesFrom_87 : decode cX12_movesFrom 87 = .ok (.iconst 2, 1) := by decide +kernel
theorem dX12_movesFrom_88 : decode cX12_movesFrom 88 = .ok (.invokevirtual 340, 3) := by decide +kernel
theorem dX12_movesFrom_91 : decode cX12_movesFrom 91 = .ok (.isub, 1) := by decide +kernel
theorem dX12_movesFrom_92 : decode cX12_movesFrom 92 = .ok (.ireturn, 1) := by decide +kernel
theorem dX12_movesFrom_93 : decode cX12_movesFrom 93 = .ok (.aload_n 0, 1) := by decide +kernel
theorem dX12_movesFrom_94 : decode cX12_movesFrom 94 = .ok (.iload_n 1, 1) := by decide +kernel
theorem dX12_movesFrom_95 : decode cX12_movesFrom 95 = .ok (.iload_n 2, 1) := by decide +kernel
theorem dX12_movesFrom_96 : decode cX12_movesFrom 96 = .ok (.invokestatic 343, 3) := by decide +kernel
theorem dX12_movesFrom_99 : decode cX12_movesFrom 99 = .ok (.iload_n 3, 1) := by decide +kernel
theorem dX12_movesFrom_100 : decode cX12_movesFrom 100 = .ok (.invokevirtual 349, 3) := by decide +kernel
theorem dX12_movesFrom_103 : decode cX12_movesFrom 103 = .ok (.ireturn, 1) := by decide +kernel
theorem dX12_tellsFrom_0 : decode cX12_tellsFrom 0 = .ok (.iload_n 2, 1) := by decide +kernel
theorem dX12_tellsFrom_1 : decode cX12_tellsFrom 1 = .ok (.lookupswitch 79 #[(0, 27), (4, 62)], 27) := by decide +kernel
theorem dX12_tellsFrom_28 : decode cX12_tellsFrom 28 = .ok (.aload_n 0, 1) := by decide +kernel
theorem dX12_tellsFrom_29 : decode cX12_tellsFrom 29 = .ok (.iconst 2, 1) := by decide +kernel
theorem dX12_tellsFrom_30 : decode cX12_tellsFrom 30 = .ok (.invokevirtual 337, 3) := by decide +kernel
theorem dX12_tellsFrom_33 : decode cX12_tellsFrom 33 = .ok (.aload_n 0, 1) := by decide +kernel
theorem dX12_tellsFrom_34 : decode cX12_tellsFrom 34 = .ok (.iload_n 1, 1) := by decide +kernel
theorem dX12_tellsFrom_35 : decode cX12_tellsFrom 35 = .ok (.aload_n 0, 1) := by decide +kernel
theorem dX12_tellsFrom_36 : decode cX12_tellsFrom 36 = .ok (.getfield 22, 3) := by decide +kernel
theorem dX12_tellsFrom_39 : decode cX12_tellsFrom 39 = .ok (.iload_n 1, 1) := by decide +kernel
theorem dX12_tellsFrom_40 : decode cX12_tellsFrom 40 = .ok (.iaload, 1) := by decide +kernel
theorem dX12_tellsFrom_41 : decode cX12_tellsFrom 41 = .ok (.iload_n 3, 1) := by decide +kernel
theorem dX12_tellsFrom_42 : decode cX12_tellsFrom 42 = .ok (.invokevirtual 346, 3) := by decide +kernel
theorem dX12_tellsFrom_45 : decode cX12_tellsFrom 45 = .ok (.istore 4, 2) := by decide +kernel
theorem dX12_tellsFrom_47 : decode cX12_tellsFrom 47 = .ok (.iload 4, 2) := by decide +kernel
theorem dX12_tellsFrom_49 : decode cX12_tellsFrom 49 = .ok (.aload_n 0, 1) := by decide +kernel
theorem dX12_tellsFrom_50 : decode cX12_tellsFrom 50 = .ok (.iload_n 1, 1) := by decide +kernel
theorem dX12_tellsFrom_51 : decode cX12_tellsFrom 51 = .ok (.aload_n 0, 1) := by decide +kernel
theorem dX12_tellsFrom_52 : decode cX12_tellsFrom 52 = .ok (.getfield 22, 3) := by decide +kernel
theorem dX12_tellsFrom_55 : decode cX12_tellsFrom 55 = .ok (.iload_n 1, 1) := by decide +kernel
theorem dX12_tellsFrom_56 : decode cX12_tellsFrom 56 = .ok (.iaload, 1) := by decide +kernel
theorem dX12_tellsFrom_57 : decode cX12_tellsFrom 57 = .ok (.iconst 1, 1) := by decide +kernel
theorem dX12_tellsFrom_58 : decode cX12_tellsFrom 58 = .ok (.invokevirtual 349, 3) := by decide +kernel
theorem dX12_tellsFrom_61 : decode cX12_tellsFrom 61 = .ok (.isub, 1) := by decide +kernel
theorem dX12_tellsFrom_62 : decode cX12_tellsFrom 62 = .ok (.ireturn, 1) := by decide +kernel
theorem dX12_tellsFrom_63 : decode cX12_tellsFrom 63 = .ok (.aload_n 0, 1) := by decide +kernel
theorem dX12_tellsFrom_64 : decode cX12_tellsFrom 64 = .ok (.bipush 50, 2) := by decide +kernel
theorem dX12_tellsFrom_66 : decode cX12_tellsFrom 66 = .ok (.invokevirtual 337, 3) := by decide +kernel
theorem dX12_tellsFrom_69 : decode cX12_tellsFrom 69 = .ok (.aload_n 0, 1) := by decide +kernel
theorem dX12_tellsFrom_70 : decode cX12_tellsFrom 70 = .ok (.iload_n 1, 1) := by decide +kernel
theorem dX12_tellsFrom_71 : decode cX12_tellsFrom 71 = .ok (.iconst 0, 1) := by decide +kernel
theorem dX12_tellsFrom_72 : decode cX12_tellsFrom 72 = .ok (.iload_n 3, 1) := by decide +kernel
theorem dX12_tellsFrom_73 : decode cX12_tellsFrom 73 = .ok (.invokevirtual 352, 3) := by decide +kernel
theorem dX12_tellsFrom_76 : decode cX12_tellsFrom 76 = .ok (.bipush 9, 2) := by decide +kernel
theorem dX12_tellsFrom_78 : decode cX12_tellsFrom 78 = .ok (.ixor, 1) := by decide +kernel
theorem dX12_tellsFrom_79 : decode cX12_tellsFrom 79 = .ok (.ireturn, 1) := by decide +kernel
theorem dX12_tellsFrom_80 : decode cX12_tellsFrom 80 = .ok (.aload_n 0, 1) := by decide +kernel
theorem dX12_tellsFrom_81 : decode cX12_tellsFrom 81 = .ok (.iload_n 1, 1) := by decide +kernel
theorem dX12_tellsFrom_82 : decode cX12_tellsFrom 82 = .ok (.iload_n 2, 1) := by decide +kernel
theorem dX12_tellsFrom_83 : decode cX12_tellsFrom 83 = .ok (.invokestatic 343, 3) := by decide +kernel
theorem dX12_tellsFrom_86 : decode cX12_tellsFrom 86 = .ok (.iload_n 3, 1) := by decide +kernel
theorem dX12_tellsFrom_87 : decode cX12_tellsFrom 87 = .ok (.invokevirtual 352, 3) := by decide +kernel
theorem dX12_tellsFrom_90 : decode cX12_tellsFrom 90 = .ok (.ireturn, 1) := by decide +kernel
theorem dX12_act_13 : decode cX12_act 13 = .ok (.iload_n 2, 1) := by decide +kernel
theorem dX12_act_14 : decode cX12_act 14 = .ok (.iconst 0, 1) := by decide +kernel
theorem dX12_act_15 : decode cX12_act 15 = .ok (.iconst 3, 1) := by decide +kernel
theorem dX12_act_16 : decode cX12_act 16 = .ok (.invokestatic 136, 3) := by decide +kernel
theorem dX12_act_19 : decode cX12_act 19 = .ok (.ifCond .ne 5, 3) := by decide +kernel
theorem dX12_act_24 : decode cX12_act 24 = .ok (.aload_n 0, 1) := by decide +kernel
theorem dX12_act_25 : decode cX12_act 25 = .ok (.getfield 22, 3) := by decide +kernel
theorem dX12_act_28 : decode cX12_act 28 = .ok (.iload_n 1, 1) := by decide +kernel
theorem dX12_act_29 : decode cX12_act 29 = .ok (.iaload, 1) := by decide +kernel
theorem dX12_act_30 : decode cX12_act 30 = .ok (.istore 4, 2) := by decide +kernel
theorem dX12_act_32 : decode cX12_act 32 = .ok (.iload_n 2, 1) := by decide +kernel
theorem dX12_act_33 : decode cX12_act 33 = .ok (.ifCond .ne 14, 3) := by decide +kernel
theorem dX12_act_36 : decode cX12_act 36 = .ok (.aload_n 0, 1) := by decide +kernel
theorem dX12_act_37 : decode cX12_act 37 = .ok (.iload_n 1, 1) := by decide +kernel
theorem dX12_act_38 : decode cX12_act 38 = .ok (.iload 4, 2) := by decide +kernel
theorem dX12_act_40 : decode cX12_act 40 = .ok (.iload_n 3, 1) := by decide +kernel
theorem dX12_act_41 : decode cX12_act 41 = .ok (.invokevirtual 340, 3) := by decide +kernel
theorem dX12_act_44 : decode cX12_act 44 = .ok (.goto 43, 3) := by decide +kernel
theorem dX12_act_47 : decode cX12_act 47 = .ok (.iload_n 2, 1) := by decide +kernel
theorem dX12_act_48 : decode cX12_act 48 = .ok (.iconst 1, 1) := by decide +kernel
theorem dX12_act_49 : decode cX12_act 49 = .ok (.if_icmp .ne 14, 3) := by decide +kernel
theorem dX12_act_52 : decode cX12_act 52 = .ok (.aload_n 0, 1) := by decide +kernel
theorem dX12_act_53 : decode cX12_act 53 = .ok (.iload_n 1, 1) := by decide +kernel
theorem dX12_act_54 : decode cX12_act 54 = .ok (.iload 4, 2) := by decide +kernel
theorem dX12_act_56 : decode cX12_act 56 = .ok (.iload_n 3, 1) := by decide +kernel
theorem dX12_act_57 : decode cX12_act 57 = .ok (.invokevirtual 346, 3) := by decide +kernel
theorem dX12_act_60 : decode cX12_act 60 = .ok (.goto 27, 3) := by decide +kernel
theorem dX12_act_63 : decode cX12_act 63 = .ok (.iload_n 2, 1) := by decide +kernel
theorem dX12_act_64 : decode cX12_act 64 = .ok (.iconst 2, 1) := by decide +kernel
theorem dX12_act_65 : decode cX12_act 65 = .ok (.if_icmp .ne 14, 3) := by decide +kernel
theorem dX12_act_68 : decode cX12_act 68 = .ok (.aload_n 0, 1) := by decide +kernel
theorem dX12_act_69 : decode cX12_act 69 = .ok (.iload_n 1, 1) := by decide +kernel
theorem dX12_act_70 : decode cX12_act 70 = .ok (.iload 4, 2) := by decide +kernel
theorem dX12_act_72 : decode cX12_act 72 = .ok (.iload_n 3, 1) := by decide +kernel
theorem dX12_act_73 : decode cX12_act 73 = .ok (.invokevirtual 349, 3) := by decide +kernel
theorem dX12_act_76 : decode cX12_act 76 = .ok (.goto 11, 3) := by decide +kernel
theorem dX12_act_79 : decode cX12_act 79 = .ok (.aload_n 0, 1) := by decide +kernel
theorem dX12_act_80 : decode cX12_act 80 = .ok (.iload_n 1, 1) := by decide +kernel
theorem dX12_act_81 : decode cX12_act 81 = .ok (.iload 4, 2) := by decide +kernel
theorem dX12_act_83 : decode cX12_act 83 = .ok (.iload_n 3, 1) := by decide +kernel
theorem dX12_act_84 : decode cX12_act 84 = .ok (.invokevirtual 352, 3) := by decide +kernel
theorem dX12_act_87 : decode cX12_act 87 = .ok (.ireturn, 1) := by decide +kernel
theorem dX12_trace_12 : decode cX12_trace 12 = .ok (.iload_n 1, 1) := by decide +kernel
theorem dX12_trace_13 : decode cX12_trace 13 = .ok (.bipush 24, 2) := by decide +kernel
theorem dX12_trace_15 : decode cX12_trace 15 = .ok (.if_icmp .ge 12, 3) := by decide +kernel
theorem dX12_trace_18 : decode cX12_trace 18 = .ok (.aload_n 0, 1) := by decide +kernel
theorem dX12_trace_19 : decode cX12_trace 19 = .ok (.getfield 99, 3) := by decide +kernel
theorem dX12_trace_22 : decode cX12_trace 22 = .ok (.iload_n 1, 1) := by decide +kernel
theorem dX12_trace_23 : decode cX12_trace 23 = .ok (.iaload, 1) := by decide +kernel
theorem dX12_trace_24 : decode cX12_trace 24 = .ok (.goto 4, 3) := by decide +kernel
theorem dX12_barred_32 : decode cX12_barred 32 = .ok (.bipush (-12), 2) := by decide +kernel
theorem dX12_barred_35 : decode cX12_barred 35 = .ok (.iload_n 2, 1) := by decide +kernel
theorem dX12_barred_36 : decode cX12_barred 36 = .ok (.iconst 0, 1) := by decide +kernel
theorem dX12_barred_37 : decode cX12_barred 37 = .ok (.aload_n 0, 1) := by decide +kernel
theorem dX12_barred_38 : decode cX12_barred 38 = .ok (.getfield 108, 3) := by decide +kernel
theorem dX12_barred_41 : decode cX12_barred 41 = .ok (.iload_n 1, 1) := by decide +kernel
theorem dX12_barred_42 : decode cX12_barred 42 = .ok (.iaload, 1) := by decide +kernel
theorem dX12_barred_43 : decode cX12_barred 43 = .ok (.iconst 1, 1) := by decide +kernel
theorem dX12_barred_44 : decode cX12_barred 44 = .ok (.isub, 1) := by decide +kernel
theorem dX12_barred_45 : decode cX12_barred 45 = .ok (.invokestatic 136, 3) := by decide +kernel
theorem dX12_barred_48 : decode cX12_barred 48 = .ok (.ifCond .eq 7, 3) := by decide +kernel
theorem dX12_barred_51 : decode cX12_barred 51 = .ok (.iconst 0, 1) := by decide +kernel
theorem dX12_barred_52 : decode cX12_barred 52 = .ok (.goto 5, 3) := by decide +kernel
theorem dX12_barred_55 : decode cX12_barred 55 = .ok (.bipush (-13), 2) := by decide +kernel
theorem dX12_barred_57 : decode cX12_barred 57 = .ok (.ireturn, 1) := by decide +kernel
theorem dX12_put_16 : decode cX12_put 16 = .ok (.aload_n 0, 1) := by decide +kernel
theorem dX12_put_17 : decode cX12_put 17 = .ok (.getfield 105, 3) := by decide +kernel
theorem dX12_put_20 : decode cX12_put 20 = .ok (.iload_n 1, 1) := by decide +kernel
theorem dX12_put_21 : decode cX12_put 21 = .ok (.iaload, 1) := by decide +kernel
theorem dX12_put_22 : decode cX12_put 22 = .ok (.istore 6, 2) := by decide +kernel
theorem dX12_put_24 : decode cX12_put 24 = .ok (.aload_n 0, 1) := by decide +kernel
theorem dX12_put_25 : decode cX12_put 25 = .ok (.getfield 111, 3) := by decide +kernel
theorem dX12_put_28 : decode cX12_put 28 = .ok (.bipush 60, 2) := by decide +kernel
theorem dX12_put_30 : decode cX12_put 30 = .ok (.iload_n 1, 1) := by decide +kernel
theorem dX12_put_31 : decode cX12_put 31 = .ok (.imul, 1) := by decide +kernel
theorem dX12_put_32 : decode cX12_put 32 = .ok (.iload_n 2, 1) := by decide +kernel
theorem dX12_put_33 : decode cX12_put 33 = .ok (.iadd, 1) := by decide +kernel
theorem dX12_put_34 : decode cX12_put 34 = .ok (.iload 6, 2) := by decide +kernel
theorem dX12_put_36 : decode cX12_put 36 = .ok (.ifCond .ne 10, 3) := by decide +kernel
theorem dX12_put_39 : decode cX12_put 39 = .ok (.lload_n 3, 1) := by decide +kernel
theorem dX12_put_40 : decode cX12_put 40 = .ok (.l2i, 1) := by decide +kernel
theorem dX12_put_41 : decode cX12_put 41 = .ok (.i2b, 1) := by decide +kernel
theorem dX12_put_42 : decode cX12_put 42 = .ok (.i2l, 1) := by decide +kernel
theorem dX12_put_43 : decode cX12_put 43 = .ok (.goto 49, 3) := by decide +kernel
theorem dX12_put_46 : decode cX12_put 46 = .ok (.iload 6, 2) := by decide +kernel
theorem dX12_put_48 : decode cX12_put 48 = .ok (.iconst 1, 1) := by decide +kernel
theorem dX12_put_49 : decode cX12_put 49 = .ok (.if_icmp .ne 10, 3) := by decide +kernel
theorem dX12_put_52 : decode cX12_put 52 = .ok (.lload_n 3, 1) := by decide +kernel
theorem dX12_put_53 : decode cX12_put 53 = .ok (.l2i, 1) := by decide +kernel
theorem dX12_put_54 : decode cX12_put 54 = .ok (.i2s, 1) := by decide +kernel
theorem dX12_put_55 : decode cX12_put 55 = .ok (.i2l, 1) := by decide +kernel
theorem dX12_put_56 : decode cX12_put 56 = .ok (.goto 36, 3) := by decide +kernel
theorem dX12_put_59 : decode cX12_put 59 = .ok (.iload 6, 2) := by decide +kernel
theorem dX12_put_61 : decode cX12_put 61 = .ok (.iconst 2, 1) := by decide +kernel
theorem dX12_put_62 : decode cX12_put 62 = .ok (.if_icmp .ne 9, 3) := by decide +kernel
theorem dX12_put_65 : decode cX12_put 65 = .ok (.lload_n 3, 1) := by decide +kernel
theorem dX12_put_66 : decode cX12_put 66 = .ok (.l2i, 1) := by decide +kernel
theorem dX12_put_67 : decode cX12_put 67 = .ok (.i2l, 1) := by decide +kernel
theorem dX12_put_68 : decode cX12_put 68 = .ok (.goto 24, 3) := by decide +kernel
theorem dX12_put_71 : decode cX12_put 71 = .ok (.iload 6, 2) := by decide +kernel
theorem dX12_put_73 : decode cX12_put 73 = .ok (.iconst 3, 1) := by decide +kernel
theorem dX12_put_74 : decode cX12_put 74 = .ok (.if_icmp .ne 7, 3) := by decide +kernel
theorem dX12_put_77 : decode cX12_put 77 = .ok (.lload_n 3, 1) := by decide +kernel
theorem dX12_put_78 : decode cX12_put 78 = .ok (.goto 14, 3) := by decide +kernel
theorem dX12_put_81 : decode cX12_put 81 = .ok (.lload_n 3, 1) := by decide +kernel
theorem dX12_put_82 : decode cX12_put 82 = .ok (.lconst 0, 1) := by decide +kernel
theorem dX12_put_83 : decode cX12_put 83 = .ok (.lcmp, 1) := by decide +kernel
theorem dX12_put_84 : decode cX12_put 84 = .ok (.ifCond .eq 7, 3) := by decide +kernel
theorem dX12_put_87 : decode cX12_put 87 = .ok (.lconst 1, 1) := by decide +kernel
theorem dX12_put_88 : decode cX12_put 88 = .ok (.goto 4, 3) := by decide +kernel
theorem dX12_put_91 : decode cX12_put 91 = .ok (.lconst 0, 1) := by decide +kernel
theorem dX12_put_92 : decode cX12_put 92 = .ok (.lastore, 1) := by decide +kernel
theorem dX12_put_93 : decode cX12_put 93 = .ok (.iconst 1, 1) := by decide +kernel
theorem dX12_put_94 : decode cX12_put 94 = .ok (.ireturn, 1) := by decide +kernel
theorem dX12_element_15 : decode cX12_element 15 = .ok (.aload_n 0, 1) := by decide +kernel
theorem dX12_element_16 : decode cX12_element 16 = .ok (.getfield 111, 3) := by decide +kernel
theorem dX12_element_19 : decode cX12_element 19 = .ok (.bipush 60, 2) := by decide +kernel
theorem dX12_element_21 : decode cX12_element 21 = .ok (.iload_n 1, 1) := by decide +kernel
theorem dX12_element_22 : decode cX12_element 22 = .ok (.imul, 1) := by decide +kernel
theorem dX12_element_23 : decode cX12_element 23 = .ok (.iload_n 2, 1) := by decide +kernel
theorem dX12_element_24 : decode cX12_element 24 = .ok (.iadd, 1) := by decide +kernel
theorem dX12_element_25 : decode cX12_element 25 = .ok (.laload, 1) := by decide +kernel
theorem dX12_shift_34 : decode cX12_shift 34 = .ok (.aload_n 0, 1) := by decide +kernel
theorem dX12_shift_35 : decode cX12_shift 35 = .ok (.getfield 105, 3) := by decide +kernel
theorem dX12_shift_38 : decode cX12_shift 38 = .ok (.iload_n 3, 1) := by decide +kernel
theorem dX12_shift_39 : decode cX12_shift 39 = .ok (.iaload, 1) := by decide +kernel
theorem dX12_shift_40 : decode cX12_shift 40 = .ok (.ifCond .ge 15, 3) := by decide +kernel
theorem dX12_shift_43 : decode cX12_shift 43 = .ok (.aload_n 0, 1) := by decide +kernel
theorem dX12_shift_44 : decode cX12_shift 44 = .ok (.getfield 102, 3) := by decide +kernel
theorem dX12_shift_47 : decode cX12_shift 47 = .ok (.iload_n 3, 1) := by decide +kernel
theorem dX12_shift_48 : decode cX12_shift 48 = .ok (.iaload, 1) := by decide +kernel
theorem dX12_shift_49 : decode cX12_shift 49 = .ok (.ifCond .ge 6, 3) := by decide +kernel
theorem dX12_shift_55 : decode cX12_shift 55 = .ok (.aload_n 0, 1) := by decide +kernel
theorem dX12_shift_56 : decode cX12_shift 56 = .ok (.getfield 105, 3) := by decide +kernel
theorem dX12_shift_59 : decode cX12_shift 59 = .ok (.iload_n 1, 1) := by decide +kernel
theorem dX12_shift_60 : decode cX12_shift 60 = .ok (.iaload, 1) := by decide +kernel
theorem dX12_shift_61 : decode cX12_shift 61 = .ok (.ifCond .lt 18, 3) := by decide +kernel
theorem dX12_shift_64 : decode cX12_shift 64 = .ok (.aload_n 0, 1) := by decide +kernel
theorem dX12_shift_65 : decode cX12_shift 65 = .ok (.getfield 105, 3) := by decide +kernel
theorem dX12_shift_68 : decode cX12_shift 68 = .ok (.iload_n 1, 1) := by decide +kernel
theorem dX12_shift_69 : decode cX12_shift 69 = .ok (.iaload, 1) := by decide +kernel
theorem dX12_shift_70 : decode cX12_shift 70 = .ok (.aload_n 0, 1) := by decide +kernel
theorem dX12_shift_71 : decode cX12_shift 71 = .ok (.getfield 105, 3) := by decide +kernel
theorem dX12_shift_74 : decode cX12_shift 74 = .ok (.iload_n 3, 1) := by decide +kernel
theorem dX12_shift_75 : decode cX12_shift 75 = .ok (.iaload, 1) := by decide +kernel
theorem dX12_shift_76 : decode cX12_shift 76 = .ok (.if_icmp .eq 6, 3) := by decide +kernel
theorem dX12_shift_79 : decode cX12_shift 79 = .ok (.bipush (-12), 2) := by decide +kernel
theorem dX12_shift_81 : decode cX12_shift 81 = .ok (.ireturn, 1) := by decide +kernel
theorem dX12_shift_82 : decode cX12_shift 82 = .ok (.iload 5, 2) := by decide +kernel
theorem dX12_shift_84 : decode cX12_shift 84 = .ok (.ifCond .lt 60, 3) := by decide +kernel
theorem dX12_shift_87 : decode cX12_shift 87 = .ok (.iload_n 2, 1) := by decide +kernel
theorem dX12_shift_88 : decode cX12_shift 88 = .ok (.ifCond .lt 56, 3) := by decide +kernel
theorem dX12_shift_91 : decode cX12_shift 91 = .ok (.iload 4, 2) := by decide +kernel
theorem dX12_shift_93 : decode cX12_shift 93 = .ok (.ifCond .lt 51, 3) := by decide +kernel
theorem dX12_shift_96 : decode cX12_shift 96 = .ok (.iload_n 2, 1) := by decide +kernel
theorem dX12_shift_97 : decode cX12_shift 97 = .ok (.aload_n 0, 1) := by decide +kernel
theorem dX12_shift_98 : decode cX12_shift 98 = .ok (.getfield 108, 3) := by decide +kernel
theorem dX12_shift_101 : decode cX12_shift 101 = .ok (.iload_n 1, 1) := by decide +kernel
theorem dX12_shift_102 : decode cX12_shift 102 = .ok (.iaload, 1) := by decide +kernel
theorem dX12_shift_103 : decode cX12_shift 103 = .ok (.if_icmp .gt 41, 3) := by decide +kernel
theorem dX12_shift_106 : decode cX12_shift 106 = .ok (.iload 4, 2) := by decide +kernel
theorem dX12_shift_108 : decode cX12_shift 108 = .ok (.aload_n 0, 1) := by decide +kernel
theorem dX12_shift_109 : decode cX12_shift 109 = .ok (.getfield 108, 3) := by decide +kernel
theorem dX12_shift_112 : decode cX12_shift 112 = .ok (.iload_n 3, 1) := by decide +kernel
theorem dX12_shift_113 : decode cX12_shift 113 = .ok (.iaload, 1) := by decide +kernel
theorem dX12_shift_114 : decode cX12_shift 114 = .ok (.if_icmp .gt 30, 3) := by decide +kernel
theorem dX12_shift_117 : decode cX12_shift 117 = .ok (.iload 5, 2) := by decide +kernel
theorem dX12_shift_119 : decode cX12_shift 119 = .ok (.aload_n 0, 1) := by decide +kernel
theorem dX12_shift_120 : decode cX12_shift 120 = .ok (.getfield 108, 3) := by decide +kernel
theorem dX12_shift_123 : decode cX12_shift 123 = .ok (.iload_n 1, 1) := by decide +kernel
theorem dX12_shift_124 : decode cX12_shift 124 = .ok (.iaload, 1) := by decide +kernel
theorem dX12_shift_125 : decode cX12_shift 125 = .ok (.iload_n 2, 1) := by decide +kernel
theorem dX12_shift_126 : decode cX12_shift 126 = .ok (.isub, 1) := by decide +kernel
theorem dX12_shift_127 : decode cX12_shift 127 = .ok (.if_icmp .gt 17, 3) := by decide +kernel
theorem dX12_shift_130 : decode cX12_shift 130 = .ok (.iload 5, 2) := by decide +kernel
theorem dX12_shift_132 : decode cX12_shift 132 = .ok (.aload_n 0, 1) := by decide +kernel
theorem dX12_shift_133 : decode cX12_shift 133 = .ok (.getfield 108, 3) := by decide +kernel
theorem dX12_shift_136 : decode cX12_shift 136 = .ok (.iload_n 3, 1) := by decide +kernel
theorem dX12_shift_137 : decode cX12_shift 137 = .ok (.iaload, 1) := by decide +kernel
theorem dX12_shift_138 : decode cX12_shift 138 = .ok (.iload 4, 2) := by decide +kernel
theorem dX12_shift_140 : decode cX12_shift 140 = .ok (.isub, 1) := by decide +kernel
theorem dX12_shift_141 : decode cX12_shift 141 = .ok (.if_icmp .le 6, 3) := by decide +kernel
theorem dX12_shift_144 : decode cX12_shift 144 = .ok (.bipush (-13), 2) := by decide +kernel
theorem dX12_shift_146 : decode cX12_shift 146 = .ok (.ireturn, 1) := by decide +kernel
theorem dX12_shift_147 : decode cX12_shift 147 = .ok (.bipush 60, 2) := by decide +kernel
theorem dX12_shift_149 : decode cX12_shift 149 = .ok (.iload_n 1, 1) := by decide +kernel
theorem dX12_shift_150 : decode cX12_shift 150 = .ok (.imul, 1) := by decide +kernel
theorem dX12_shift_151 : decode cX12_shift 151 = .ok (.iload_n 2, 1) := by decide +kernel
theorem dX12_shift_152 : decode cX12_shift 152 = .ok (.iadd, 1) := by decide +kernel
theorem dX12_shift_153 : decode cX12_shift 153 = .ok (.istore 6, 2) := by decide +kernel
theorem dX12_shift_155 : decode cX12_shift 155 = .ok (.bipush 60, 2) := by decide +kernel
theorem dX12_shift_157 : decode cX12_shift 157 = .ok (.iload_n 3, 1) := by decide +kernel
theorem dX12_shift_158 : decode cX12_shift 158 = .ok (.imul, 1) := by decide +kernel
theorem dX12_shift_159 : decode cX12_shift 159 = .ok (.iload 4, 2) := by decide +kernel
theorem dX12_shift_161 : decode cX12_shift 161 = .ok (.iadd, 1) := by decide +kernel
theorem dX12_shift_162 : decode cX12_shift 162 = .ok (.istore 7, 2) := by decide +kernel
theorem dX12_shift_164 : decode cX12_shift 164 = .ok (.iconst 0, 1) := by decide +kernel
theorem dX12_shift_165 : decode cX12_shift 165 = .ok (.istore 8, 2) := by decide +kernel
theorem dX12_shift_167 : decode cX12_shift 167 = .ok (.iload 8, 2) := by decide +kernel
theorem dX12_shift_169 : decode cX12_shift 169 = .ok (.iload 5, 2) := by decide +kernel
theorem dX12_shift_171 : decode cX12_shift 171 = .ok (.if_icmp .ge 50, 3) := by decide +kernel
theorem dX12_shift_174 : decode cX12_shift 174 = .ok (.iload 6, 2) := by decide +kernel
theorem dX12_shift_176 : decode cX12_shift 176 = .ok (.iload 7, 2) := by decide +kernel
theorem dX12_shift_178 : decode cX12_shift 178 = .ok (.if_icmp .ge 13, 3) := by decide +kernel
theorem dX12_shift_181 : decode cX12_shift 181 = .ok (.iload 5, 2) := by decide +kernel
theorem dX12_shift_183 : decode cX12_shift 183 = .ok (.iconst 1, 1) := by decide +kernel
theorem dX12_shift_184 : decode cX12_shift 184 = .ok (.isub, 1) := by decide +kernel
theorem dX12_shift_185 : decode cX12_shift 185 = .ok (.iload 8, 2) := by decide +kernel
theorem dX12_shift_187 : decode cX12_shift 187 = .ok (.isub, 1) := by decide +kernel
theorem dX12_shift_188 : decode cX12_shift 188 = .ok (.goto 5, 3) := by decide +kernel
theorem dX12_shift_191 : decode cX12_shift 191 = .ok (.iload 8, 2) := by decide +kernel
theorem dX12_shift_193 : decode cX12_shift 193 = .ok (.istore 9, 2) := by decide +kernel
theorem dX12_shift_195 : decode cX12_shift 195 = .ok (.aload_n 0, 1) := by decide +kernel
theorem dX12_shift_196 : decode cX12_shift 196 = .ok (.getfield 111, 3) := by decide +kernel
theorem dX12_shift_199 : decode cX12_shift 199 = .ok (.iload 7, 2) := by decide +kernel
theorem dX12_shift_201 : decode cX12_shift 201 = .ok (.iload 9, 2) := by decide +kernel
theorem dX12_shift_203 : decode cX12_shift 203 = .ok (.iadd, 1) := by decide +kernel
theorem dX12_shift_204 : decode cX12_shift 204 = .ok (.aload_n 0, 1) := by decide +kernel
theorem dX12_shift_205 : decode cX12_shift 205 = .ok (.getfield 111, 3) := by decide +kernel
theorem dX12_shift_208 : decode cX12_shift 208 = .ok (.iload 6, 2) := by decide +kernel
theorem dX12_shift_210 : decode cX12_shift 210 = .ok (.iload 9, 2) := by decide +kernel
theorem dX12_shift_212 : decode cX12_shift 212 = .ok (.iadd, 1) := by decide +kernel
theorem dX12_shift_213 : decode cX12_shift 213 = .ok (.laload, 1) := by decide +kernel
theorem dX12_shift_214 : decode cX12_shift 214 = .ok (.lastore, 1) := by decide +kernel
theorem dX12_shift_215 : decode cX12_shift 215 = .ok (.iinc 8 1, 3) := by decide +kernel
theorem dX12_shift_218 : decode cX12_shift 218 = .ok (.goto (-51), 3) := by decide +kernel
theorem dX12_shift_221 : decode cX12_shift 221 = .ok (.iload 5, 2) := by decide +kernel
theorem dX12_shift_223 : decode cX12_shift 223 = .ok (.ireturn, 1) := by decide +kernel
theorem dX12_taken_40 : decode cX12_taken 40 = .ok (.aload_n 0, 1) := by decide +kernel
theorem dX12_taken_41 : decode cX12_taken 41 = .ok (.getfield 102, 3) := by decide +kernel
theorem dX12_taken_44 : decode cX12_taken 44 = .ok (.iload_n 1, 1) := by decide +kernel
theorem dX12_taken_45 : decode cX12_taken 45 = .ok (.iaload, 1) := by decide +kernel
theorem dX12_taken_46 : decode cX12_taken 46 = .ok (.ifCond .ge 6, 3) := by decide +kernel
theorem dX12_taken_49 : decode cX12_taken 49 = .ok (.bipush (-12), 2) := by decide +kernel
theorem dX12_taken_51 : decode cX12_taken 51 = .ok (.ireturn, 1) := by decide +kernel
theorem dX12_taken_52 : decode cX12_taken 52 = .ok (.aload_n 0, 1) := by decide +kernel
theorem dX12_taken_53 : decode cX12_taken 53 = .ok (.getfield 22, 3) := by decide +kernel
theorem dX12_taken_56 : decode cX12_taken 56 = .ok (.aload_n 0, 1) := by decide +kernel
theorem dX12_taken_57 : decode cX12_taken 57 = .ok (.getfield 102, 3) := by decide +kernel
theorem dX12_taken_60 : decode cX12_taken 60 = .ok (.iload_n 1, 1) := by decide +kernel
theorem dX12_taken_61 : decode cX12_taken 61 = .ok (.iaload, 1) := by decide +kernel
theorem dX12_taken_62 : decode cX12_taken 62 = .ok (.iaload, 1) := by decide +kernel
theorem dX12_taken_63 : decode cX12_taken 63 = .ok (.istore_n 3, 1) := by decide +kernel
theorem dX12_taken_64 : decode cX12_taken 64 = .ok (.iload_n 2, 1) := by decide +kernel
theorem dX12_taken_65 : decode cX12_taken 65 = .ok (.ifCond .eq 19, 3) := by decide +kernel
theorem dX12_taken_68 : decode cX12_taken 68 = .ok (.iload_n 2, 1) := by decide +kernel
theorem dX12_taken_69 : decode cX12_taken 69 = .ok (.iload_n 3, 1) := by decide +kernel
theorem dX12_taken_70 : decode cX12_taken 70 = .ok (.if_icmp .eq 14, 3) := by decide +kernel
theorem dX12_taken_73 : decode cX12_taken 73 = .ok (.iload_n 2, 1) := by decide +kernel
theorem dX12_taken_74 : decode cX12_taken 74 = .ok (.iconst 1, 1) := by decide +kernel
theorem dX12_taken_75 : decode cX12_taken 75 = .ok (.if_icmp .ne 13, 3) := by decide +kernel
theorem dX12_taken_78 : decode cX12_taken 78 = .ok (.iload_n 3, 1) := by decide +kernel
theorem dX12_taken_79 : decode cX12_taken 79 = .ok (.bipush 6, 2) := by decide +kernel
theorem dX12_taken_81 : decode cX12_taken 81 = .ok (.if_icmp .ne 7, 3) := by decide +kernel
theorem dX12_taken_84 : decode cX12_taken 84 = .ok (.iload_n 3, 1) := by decide +kernel
theorem dX12_taken_85 : decode cX12_taken 85 = .ok (.goto 5, 3) := by decide +kernel
theorem dX12_taken_88 : decode cX12_taken 88 = .ok (.bipush (-12), 2) := by decide +kernel
theorem dX12_taken_90 : decode cX12_taken 90 = .ok (.ireturn, 1) := by decide +kernel
theorem dX12_names_37 : decode cX12_names 37 = .ok (.bipush (-12), 2) := by decide +kernel
theorem dX12_names_39 : decode cX12_names 39 = .ok (.ireturn, 1) := by decide +kernel
theorem dX12_names_49 : decode cX12_names 49 = .ok (.aload_n 0, 1) := by decide +kernel
theorem dX12_names_50 : decode cX12_names 50 = .ok (.getfield 108, 3) := by decide +kernel
theorem dX12_names_53 : decode cX12_names 53 = .ok (.iload_n 1, 1) := by decide +kernel
theorem dX12_names_54 : decode cX12_names 54 = .ok (.iaload, 1) := by decide +kernel
theorem dX12_names_55 : decode cX12_names 55 = .ok (.goto 4, 3) := by decide +kernel
theorem dX12_names_100 : decode cX12_names 100 = .ok (.aload_n 0, 1) := by decide +kernel
theorem dX12_names_101 : decode cX12_names 101 = .ok (.getfield 111, 3) := by decide +kernel
theorem dX12_names_104 : decode cX12_names 104 = .ok (.bipush 60, 2) := by decide +kernel
theorem dX12_names_106 : decode cX12_names 106 = .ok (.iload_n 1, 1) := by decide +kernel
theorem dX12_names_107 : decode cX12_names 107 = .ok (.imul, 1) := by decide +kernel
theorem dX12_names_108 : decode cX12_names 108 = .ok (.iload 5, 2) := by decide +kernel
theorem dX12_names_110 : decode cX12_names 110 = .ok (.iadd, 1) := by decide +kernel
theorem dX12_names_111 : decode cX12_names 111 = .ok (.laload, 1) := by decide +kernel
theorem dX12_names_112 : decode cX12_names 112 = .ok (.l2i, 1) := by decide +kernel
theorem dX12_names_113 : decode cX12_names 113 = .ok (.goto 4, 3) := by decide +kernel
theorem dX12_names_130 : decode cX12_names 130 = .ok (.iload 5, 2) := by decide +kernel
theorem dX12_names_132 : decode cX12_names 132 = .ok (.iload 9, 2) := by decide +kernel
theorem dX12_names_134 : decode cX12_names 134 = .ok (.iadd, 1) := by decide +kernel
theorem dX12_names_135 : decode cX12_names 135 = .ok (.iload 4, 2) := by decide +kernel
theorem dX12_names_137 : decode cX12_names 137 = .ok (.if_icmp .ge 7, 3) := by decide +kernel
theorem dX12_names_140 : decode cX12_names 140 = .ok (.iconst 1, 1) := by decide +kernel
theorem dX12_names_141 : decode cX12_names 141 = .ok (.goto 4, 3) := by decide +kernel
theorem dX12_names_157 : decode cX12_names 157 = .ok (.iload 7, 2) := by decide +kernel
theorem dX12_names_159 : decode cX12_names 159 = .ok (.ifCond .eq 38, 3) := by decide +kernel
theorem dX12_names_162 : decode cX12_names 162 = .ok (.aload_n 0, 1) := by decide +kernel
theorem dX12_names_163 : decode cX12_names 163 = .ok (.getfield 115, 3) := by decide +kernel
theorem dX12_names_166 : decode cX12_names 166 = .ok (.iload 10, 2) := by decide +kernel
theorem dX12_names_168 : decode cX12_names 168 = .ok (.aload_n 0, 1) := by decide +kernel
theorem dX12_names_169 : decode cX12_names 169 = .ok (.getfield 111, 3) := by decide +kernel
theorem dX12_names_172 : decode cX12_names 172 = .ok (.bipush 60, 2) := by decide +kernel
theorem dX12_names_174 : decode cX12_names 174 = .ok (.iload_n 1, 1) := by decide +kernel
theorem dX12_names_175 : decode cX12_names 175 = .ok (.imul, 1) := by decide +kernel
theorem dX12_names_176 : decode cX12_names 176 = .ok (.iload 5, 2) := by decide +kernel
theorem dX12_names_178 : decode cX12_names 178 = .ok (.iadd, 1) := by decide +kernel
theorem dX12_names_179 : decode cX12_names 179 = .ok (.iconst 1, 1) := by decide +kernel
theorem dX12_names_180 : decode cX12_names 180 = .ok (.iadd, 1) := by decide +kernel
theorem dX12_names_181 : decode cX12_names 181 = .ok (.iload 10, 2) := by decide +kernel
theorem dX12_names_183 : decode cX12_names 183 = .ok (.iadd, 1) := by decide +kernel
theorem dX12_names_184 : decode cX12_names 184 = .ok (.laload, 1) := by decide +kernel
theorem dX12_names_185 : decode cX12_names 185 = .ok (.l2i, 1) := by decide +kernel
theorem dX12_names_186 : decode cX12_names 186 = .ok (.sipush 255, 3) := by decide +kernel
theorem dX12_names_189 : decode cX12_names 189 = .ok (.iand, 1) := by decide +kernel
theorem dX12_names_190 : decode cX12_names 190 = .ok (.iastore, 1) := by decide +kernel
theorem dX12_names_191 : decode cX12_names 191 = .ok (.iinc 10 1, 3) := by decide +kernel
theorem dX12_names_194 : decode cX12_names 194 = .ok (.goto (-44), 3) := by decide +kernel
theorem dX12_names_202 : decode cX12_names 202 = .ok (.aload_n 0, 1) := by decide +kernel
theorem dX12_names_203 : decode cX12_names 203 = .ok (.iload 9, 2) := by decide +kernel
theorem dX12_names_205 : decode cX12_names 205 = .ok (.invokevirtual 149, 3) := by decide +kernel
theorem dX12_names_208 : decode cX12_names 208 = .ok (.ifCond .ge 7, 3) := by decide +kernel
theorem dX12_names_211 : decode cX12_names 211 = .ok (.iconst 1, 1) := by decide +kernel
theorem dX12_names_212 : decode cX12_names 212 = .ok (.goto 4, 3) := by decide +kernel
theorem dX12_names_223 : decode cX12_names 223 = .ok (.iload 10, 2) := by decide +kernel
theorem dX12_names_225 : decode cX12_names 225 = .ok (.ifCond .eq 12, 3) := by decide +kernel
theorem dX12_names_228 : decode cX12_names 228 = .ok (.aload_n 0, 1) := by decide +kernel
theorem dX12_names_229 : decode cX12_names 229 = .ok (.getfield 133, 3) := by decide +kernel
theorem dX12_names_232 : decode cX12_names 232 = .ok (.bipush 40, 2) := by decide +kernel
theorem dX12_names_234 : decode cX12_names 234 = .ok (.if_icmp .eq 7, 3) := by decide +kernel
theorem dX12_names_237 : decode cX12_names 237 = .ok (.iconst 1, 1) := by decide +kernel
theorem dX12_names_238 : decode cX12_names 238 = .ok (.goto 4, 3) := by decide +kernel
theorem dX12_names_249 : decode cX12_names 249 = .ok (.iload 10, 2) := by decide +kernel
theorem dX12_names_251 : decode cX12_names 251 = .ok (.ifCond .eq 12, 3) := by decide +kernel
theorem dX12_names_254 : decode cX12_names 254 = .ok (.aload_n 0, 1) := by decide +kernel
theorem dX12_names_255 : decode cX12_names 255 = .ok (.iload 9, 2) := by decide +kernel
theorem dX12_names_257 : decode cX12_names 257 = .ok (.invokevirtual 153, 3) := by decide +kernel
theorem dX12_names_260 : decode cX12_names 260 = .ok (.iinc 6 1, 3) := by decide +kernel
theorem dX12_names_270 : decode cX12_names 270 = .ok (.iconst 1, 1) := by decide +kernel
theorem dX12_names_271 : decode cX12_names 271 = .ok (.iload 9, 2) := by decide +kernel
theorem dX12_names_273 : decode cX12_names 273 = .ok (.iadd, 1) := by decide +kernel
theorem dX12_names_274 : decode cX12_names 274 = .ok (.goto 4, 3) := by decide +kernel
theorem dX12_count_78 : decode cX12_count 78 = .ok (.iload_n 2, 1) := by decide +kernel
theorem dX12_count_79 : decode cX12_count 79 = .ok (.aload_n 0, 1) := by decide +kernel
theorem dX12_count_80 : decode cX12_count 80 = .ok (.iload_n 3, 1) := by decide +kernel
theorem dX12_count_81 : decode cX12_count 81 = .ok (.iload_n 1, 1) := by decide +kernel
theorem dX12_count_82 : decode cX12_count 82 = .ok (.iconst 4, 1) := by decide +kernel
theorem dX12_count_83 : decode cX12_count 83 = .ok (.if_icmp .ne 7, 3) := by decide +kernel
theorem dX12_count_86 : decode cX12_count 86 = .ok (.iconst 1, 1) := by decide +kernel
theorem dX12_count_87 : decode cX12_count 87 = .ok (.goto 4, 3) := by decide +kernel
theorem dX12_count_90 : decode cX12_count 90 = .ok (.iconst 0, 1) := by decide +kernel
theorem dX12_count_91 : decode cX12_count 91 = .ok (.invokevirtual 173, 3) := by decide +kernel
theorem dX12_count_94 : decode cX12_count 94 = .ok (.iadd, 1) := by decide +kernel
theorem dX12_count_95 : decode cX12_count 95 = .ok (.istore_n 2, 1) := by decide +kernel
theorem dX12_count_96 : decode cX12_count 96 = .ok (.iinc 3 1, 3) := by decide +kernel
theorem dX12_count_99 : decode cX12_count 99 = .ok (.goto (-29), 3) := by decide +kernel
theorem dJ6_bitCount_0f7a4_0 : decode cJ6_bitCount_0f7a4 0 = .ok (.iload_n 0, 1) := by decide +kernel
theorem dJ6_bitCount_0f7a4_1 : decode cJ6_bitCount_0f7a4 1 = .ok (.iload_n 0, 1) := by decide +kernel
theorem dJ6_bitCount_0f7a4_2 : decode cJ6_bitCount_0f7a4 2 = .ok (.iconst 1, 1) := by decide +kernel
theorem dJ6_bitCount_0f7a4_3 : decode cJ6_bitCount_0f7a4 3 = .ok (.iushr, 1) := by decide +kernel
theorem dJ6_bitCount_0f7a4_4 : decode cJ6_bitCount_0f7a4 4 = .ok (.ldc_w 265, 3) := by decide +kernel
theorem dJ6_bitCount_0f7a4_7 : decode cJ6_bitCount_0f7a4 7 = .ok (.iand, 1) := by decide +kernel
theorem dJ6_bitCount_0f7a4_8 : decode cJ6_bitCount_0f7a4 8 = .ok (.isub, 1) := by decide +kernel
theorem dJ6_bitCount_0f7a4_9 : decode cJ6_bitCount_0f7a4 9 = .ok (.istore_n 0, 1) := by decide +kernel
theorem dJ6_bitCount_0f7a4_10 : decode cJ6_bitCount_0f7a4 10 = .ok (.iload_n 0, 1) := by decide +kernel
theorem dJ6_bitCount_0f7a4_11 : decode cJ6_bitCount_0f7a4 11 = .ok (.ldc_w 266, 3) := by decide +kernel
theorem dJ6_bitCount_0f7a4_14 : decode cJ6_bitCount_0f7a4 14 = .ok (.iand, 1) := by decide +kernel
theorem dJ6_bitCount_0f7a4_15 : decode cJ6_bitCount_0f7a4 15 = .ok (.iload_n 0, 1) := by decide +kernel
theorem dJ6_bitCount_0f7a4_16 : decode cJ6_bitCount_0f7a4 16 = .ok (.iconst 2, 1) := by decide +kernel
theorem dJ6_bitCount_0f7a4_17 : decode cJ6_bitCount_0f7a4 17 = .ok (.iushr, 1) := by decide +kernel
theorem dJ6_bitCount_0f7a4_18 : decode cJ6_bitCount_0f7a4 18 = .ok (.ldc_w 266, 3) := by decide +kernel
theorem dJ6_bitCount_0f7a4_21 : decode cJ6_bitCount_0f7a4 21 = .ok (.iand, 1) := by decide +kernel
theorem dJ6_bitCount_0f7a4_22 : decode cJ6_bitCount_0f7a4 22 = .ok (.iadd, 1) := by decide +kernel
theorem dJ6_bitCount_0f7a4_23 : decode cJ6_bitCount_0f7a4 23 = .ok (.istore_n 0, 1) := by decide +kernel
theorem dJ6_bitCount_0f7a4_24 : decode cJ6_bitCount_0f7a4 24 = .ok (.iload_n 0, 1) := by decide +kernel
theorem dJ6_bitCount_0f7a4_25 : decode cJ6_bitCount_0f7a4 25 = .ok (.iload_n 0, 1) := by decide +kernel
theorem dJ6_bitCount_0f7a4_26 : decode cJ6_bitCount_0f7a4 26 = .ok (.iconst 4, 1) := by decide +kernel
theorem dJ6_bitCount_0f7a4_27 : decode cJ6_bitCount_0f7a4 27 = .ok (.iushr, 1) := by decide +kernel
theorem dJ6_bitCount_0f7a4_28 : decode cJ6_bitCount_0f7a4 28 = .ok (.iadd, 1) := by decide +kernel
theorem dJ6_bitCount_0f7a4_29 : decode cJ6_bitCount_0f7a4 29 = .ok (.ldc_w 267, 3) := by decide +kernel
theorem dJ6_bitCount_0f7a4_32 : decode cJ6_bitCount_0f7a4 32 = .ok (.iand, 1) := by decide +kernel
theorem dJ6_bitCount_0f7a4_33 : decode cJ6_bitCount_0f7a4 33 = .ok (.istore_n 0, 1) := by decide +kernel
theorem dJ6_bitCount_0f7a4_34 : decode cJ6_bitCount_0f7a4 34 = .ok (.iload_n 0, 1) := by decide +kernel
theorem dJ6_bitCount_0f7a4_35 : decode cJ6_bitCount_0f7a4 35 = .ok (.iload_n 0, 1) := by decide +kernel
theorem dJ6_bitCount_0f7a4_36 : decode cJ6_bitCount_0f7a4 36 = .ok (.bipush 8, 2) := by decide +kernel
theorem dJ6_bitCount_0f7a4_38 : decode cJ6_bitCount_0f7a4 38 = .ok (.iushr, 1) := by decide +kernel
theorem dJ6_bitCount_0f7a4_39 : decode cJ6_bitCount_0f7a4 39 = .ok (.iadd, 1) := by decide +kernel
theorem dJ6_bitCount_0f7a4_40 : decode cJ6_bitCount_0f7a4 40 = .ok (.istore_n 0, 1) := by decide +kernel
theorem dJ6_bitCount_0f7a4_41 : decode cJ6_bitCount_0f7a4 41 = .ok (.iload_n 0, 1) := by decide +kernel
theorem dJ6_bitCount_0f7a4_42 : decode cJ6_bitCount_0f7a4 42 = .ok (.iload_n 0, 1) := by decide +kernel
theorem dJ6_bitCount_0f7a4_43 : decode cJ6_bitCount_0f7a4 43 = .ok (.bipush 16, 2) := by decide +kernel
theorem dJ6_bitCount_0f7a4_45 : decode cJ6_bitCount_0f7a4 45 = .ok (.iushr, 1) := by decide +kernel
theorem dJ6_bitCount_0f7a4_46 : decode cJ6_bitCount_0f7a4 46 = .ok (.iadd, 1) := by decide +kernel
theorem dJ6_bitCount_0f7a4_47 : decode cJ6_bitCount_0f7a4 47 = .ok (.istore_n 0, 1) := by decide +kernel
theorem dJ6_bitCount_0f7a4_48 : decode cJ6_bitCount_0f7a4 48 = .ok (.iload_n 0, 1) := by decide +kernel
theorem dJ6_bitCount_0f7a4_49 : decode cJ6_bitCount_0f7a4 49 = .ok (.bipush 63, 2) := by decide +kernel
theorem dJ6_bitCount_0f7a4_51 : decode cJ6_bitCount_0f7a4 51 = .ok (.iand, 1) := by decide +kernel
theorem dJ6_bitCount_0f7a4_52 : decode cJ6_bitCount_0f7a4 52 = .ok (.ireturn, 1) := by decide +kernel
theorem dJ7_fill_031fb_0 : decode cJ7_fill_031fb 0 = .ok (.iconst 0, 1) := by decide +kernel
theorem dJ7_fill_031fb_1 : decode cJ7_fill_031fb 1 = .ok (.istore_n 2, 1) := by decide +kernel
theorem dJ7_fill_031fb_2 : decode cJ7_fill_031fb 2 = .ok (.aload_n 0, 1) := by decide +kernel
theorem dJ7_fill_031fb_3 : decode cJ7_fill_031fb 3 = .ok (.arraylength, 1) := by decide +kernel
theorem dJ7_fill_031fb_4 : decode cJ7_fill_031fb 4 = .ok (.istore_n 3, 1) := by decide +kernel
theorem dJ7_fill_031fb_5 : decode cJ7_fill_031fb 5 = .ok (.iload_n 2, 1) := by decide +kernel
theorem dJ7_fill_031fb_6 : decode cJ7_fill_031fb 6 = .ok (.iload_n 3, 1) := by decide +kernel
theorem dJ7_fill_031fb_7 : decode cJ7_fill_031fb 7 = .ok (.if_icmp .ge 13, 3) := by decide +kernel
theorem dJ7_fill_031fb_10 : decode cJ7_fill_031fb 10 = .ok (.aload_n 0, 1) := by decide +kernel
theorem dJ7_fill_031fb_11 : decode cJ7_fill_031fb 11 = .ok (.iload_n 2, 1) := by decide +kernel
theorem dJ7_fill_031fb_12 : decode cJ7_fill_031fb 12 = .ok (.iload_n 1, 1) := by decide +kernel
theorem dJ7_fill_031fb_13 : decode cJ7_fill_031fb 13 = .ok (.bastore, 1) := by decide +kernel
theorem dJ7_fill_031fb_14 : decode cJ7_fill_031fb 14 = .ok (.iinc 2 1, 3) := by decide +kernel
theorem dJ7_fill_031fb_17 : decode cJ7_fill_031fb 17 = .ok (.goto (-12), 3) := by decide +kernel
theorem dJ7_fill_031fb_20 : decode cJ7_fill_031fb 20 = .ok (.return_, 1) := by decide +kernel

