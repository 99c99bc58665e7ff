theorem dX11_ofKeeper_67 : decode cX11_ofKeeper 67 = .ok (.iload_n 1, 1) := by decide +kernel
theorem dX11_ofKeeper_68 : decode cX11_ofKeeper 68 = .ok (.iaload, 1) := by decide +kernel
theorem dX11_ofKeeper_69 : decode cX11_ofKeeper 69 = .ok (.ireturn, 1) := by decide +kernel
theorem dX11_ofKeeper_70 : decode cX11_ofKeeper 70 = .ok (.aload_n 0, 1) := by decide +kernel
theorem dX11_ofKeeper_71 : decode cX11_ofKeeper 71 = .ok (.getfield 26, 3) := by decide +kernel
theorem dX11_ofKeeper_74 : decode cX11_ofKeeper 74 = .ok (.getfield 153, 3) := by decide +kernel
theorem dX11_ofKeeper_77 : decode cX11_ofKeeper 77 = .ok (.iload_n 1, 1) := by decide +kernel
theorem dX11_ofKeeper_78 : decode cX11_ofKeeper 78 = .ok (.iaload, 1) := by decide +kernel
theorem dX11_ofKeeper_79 : decode cX11_ofKeeper 79 = .ok (.ireturn, 1) := by decide +kernel
theorem dX11_ofKeeper_80 : decode cX11_ofKeeper 80 = .ok (.aload_n 0, 1) := by decide +kernel
theorem dX11_ofKeeper_81 : decode cX11_ofKeeper 81 = .ok (.getfield 26, 3) := by decide +kernel
theorem dX11_ofKeeper_84 : decode cX11_ofKeeper 84 = .ok (.getfield 149, 3) := by decide +kernel
theorem dX11_ofKeeper_87 : decode cX11_ofKeeper 87 = .ok (.iload_n 1, 1) := by decide +kernel
theorem dX11_ofKeeper_88 : decode cX11_ofKeeper 88 = .ok (.iaload, 1) := by decide +kernel
theorem dX11_ofKeeper_89 : decode cX11_ofKeeper 89 = .ok (.ireturn, 1) := by decide +kernel
theorem dX11_ofKeeper_90 : decode cX11_ofKeeper 90 = .ok (.aload_n 0, 1) := by decide +kernel
theorem dX11_ofKeeper_91 : decode cX11_ofKeeper 91 = .ok (.getfield 26, 3) := by decide +kernel
theorem dX11_ofKeeper_94 : decode cX11_ofKeeper 94 = .ok (.iload_n 1, 1) := by decide +kernel
theorem dX11_ofKeeper_95 : decode cX11_ofKeeper 95 = .ok (.invokevirtual 156, 3) := by decide +kernel
theorem dX11_ofKeeper_98 : decode cX11_ofKeeper 98 = .ok (.ireturn, 1) := by decide +kernel
theorem dX11_ofKeeper_99 : decode cX11_ofKeeper 99 = .ok (.aload_n 0, 1) := by decide +kernel
theorem dX11_ofKeeper_100 : decode cX11_ofKeeper 100 = .ok (.getfield 26, 3) := by decide +kernel
theorem dX11_ofKeeper_103 : decode cX11_ofKeeper 103 = .ok (.getfield 160, 3) := by decide +kernel
theorem dX11_ofKeeper_106 : decode cX11_ofKeeper 106 = .ok (.iload_n 1, 1) := by decide +kernel
theorem dX11_ofKeeper_107 : decode cX11_ofKeeper 107 = .ok (.iaload, 1) := by decide +kernel
theorem dX11_ofKeeper_108 : decode cX11_ofKeeper 108 = .ok (.ireturn, 1) := by decide +kernel
theorem dX11_ofKeeper_109 : decode cX11_ofKeeper 109 = .ok (.aload_n 0, 1) := by decide +kernel
theorem dX11_ofKeeper_110 : decode cX11_ofKeeper 110 = .ok (.getfield 66, 3) := by decide +kernel
theorem dX11_ofKeeper_113 : decode cX11_ofKeeper 113 = .ok (.iload_n 1, 1) := by decide +kernel
theorem dX11_ofKeeper_114 : decode cX11_ofKeeper 114 = .ok (.invokevirtual 163, 3) := by decide +kernel
theorem dX11_ofKeeper_117 : decode cX11_ofKeeper 117 = .ok (.ireturn, 1) := by decide +kernel
theorem dX11_ofKeeper_118 : decode cX11_ofKeeper 118 = .ok (.aload_n 0, 1) := by decide +kernel
theorem dX11_ofKeeper_119 : decode cX11_ofKeeper 119 = .ok (.getfield 66, 3) := by decide +kernel
theorem dX11_ofKeeper_122 : decode cX11_ofKeeper 122 = .ok (.iload_n 1, 1) := by decide +kernel
theorem dX11_ofKeeper_123 : decode cX11_ofKeeper 123 = .ok (.invokevirtual 166, 3) := by decide +kernel
theorem dX11_ofKeeper_126 : decode cX11_ofKeeper 126 = .ok (.ireturn, 1) := by decide +kernel
theorem dX11_ofKeeper_127 : decode cX11_ofKeeper 127 = .ok (.aload_n 0, 1) := by decide +kernel
theorem dX11_ofKeeper_128 : decode cX11_ofKeeper 128 = .ok (.getfield 26, 3) := by decide +kernel
theorem dX11_ofKeeper_131 : decode cX11_ofKeeper 131 = .ok (.getfield 169, 3) := by decide +kernel
theorem dX11_ofKeeper_134 : decode cX11_ofKeeper 134 = .ok (.iload_n 1, 1) := by decide +kernel
theorem dX11_ofKeeper_135 : decode cX11_ofKeeper 135 = .ok (.baload, 1) := by decide +kernel
theorem dX11_ofKeeper_136 : decode cX11_ofKeeper 136 = .ok (.ifCond .eq 7, 3) := by decide +kernel
theorem dX11_ofKeeper_139 : decode cX11_ofKeeper 139 = .ok (.iconst 1, 1) := by decide +kernel
theorem dX11_ofKeeper_140 : decode cX11_ofKeeper 140 = .ok (.goto 4, 3) := by decide +kernel
theorem dX11_ofKeeper_143 : decode cX11_ofKeeper 143 = .ok (.iconst 0, 1) := by decide +kernel
theorem dX11_ofKeeper_144 : decode cX11_ofKeeper 144 = .ok (.ireturn, 1) := by decide +kernel
theorem dX11_ofKeeper_145 : decode cX11_ofKeeper 145 = .ok (.ldc 152, 2) := by decide +kernel
theorem dX11_ofKeeper_147 : decode cX11_ofKeeper 147 = .ok (.ireturn, 1) := by decide +kernel
theorem dX11_table_26 : decode cX11_table 26 = .ok (.aload_n 0, 1) := by decide +kernel
theorem dX11_table_27 : decode cX11_table 27 = .ok (.getfield 52, 3) := by decide +kernel
theorem dX11_table_30 : decode cX11_table 30 = .ok (.bipush 10, 2) := by decide +kernel
theorem dX11_table_32 : decode cX11_table 32 = .ok (.if_icmp .lt 6, 3) := by decide +kernel
theorem dX11_table_35 : decode cX11_table 35 = .ok (.bipush (-3), 2) := by decide +kernel
theorem dX11_table_37 : decode cX11_table 37 = .ok (.ireturn, 1) := by decide +kernel
theorem dX11_table_38 : decode cX11_table 38 = .ok (.aload_n 0, 1) := by decide +kernel
theorem dX11_table_39 : decode cX11_table 39 = .ok (.getfield 57, 3) := by decide +kernel
theorem dX11_table_42 : decode cX11_table 42 = .ok (.iload_n 1, 1) := by decide +kernel
theorem dX11_table_43 : decode cX11_table 43 = .ok (.aload_n 0, 1) := by decide +kernel
theorem dX11_table_44 : decode cX11_table 44 = .ok (.getfield 26, 3) := by decide +kernel
theorem dX11_table_47 : decode cX11_table 47 = .ok (.invokevirtual 173, 3) := by decide +kernel
theorem dX11_table_50 : decode cX11_table 50 = .ok (.aload_n 0, 1) := by decide +kernel
theorem dX11_table_51 : decode cX11_table 51 = .ok (.getfield 57, 3) := by decide +kernel
theorem dX11_table_54 : decode cX11_table 54 = .ok (.aload_n 0, 1) := by decide +kernel
theorem dX11_table_55 : decode cX11_table 55 = .ok (.getfield 10, 3) := by decide +kernel
theorem dX11_table_58 : decode cX11_table 58 = .ok (.getfield 109, 3) := by decide +kernel
theorem dX11_table_61 : decode cX11_table 61 = .ok (.aload_n 0, 1) := by decide +kernel
theorem dX11_table_62 : decode cX11_table 62 = .ok (.getfield 10, 3) := by decide +kernel
theorem dX11_table_65 : decode cX11_table 65 = .ok (.getfield 102, 3) := by decide +kernel
theorem dX11_table_68 : decode cX11_table 68 = .ok (.invokevirtual 177, 3) := by decide +kernel
theorem dX11_table_71 : decode cX11_table 71 = .ok (.aload_n 0, 1) := by decide +kernel
theorem dX11_table_72 : decode cX11_table 72 = .ok (.getfield 10, 3) := by decide +kernel
theorem dX11_table_75 : decode cX11_table 75 = .ok (.iconst 0, 1) := by decide +kernel
theorem dX11_table_76 : decode cX11_table 76 = .ok (.putfield 102, 3) := by decide +kernel
theorem dX11_table_79 : decode cX11_table 79 = .ok (.aload_n 0, 1) := by decide +kernel
theorem dX11_table_80 : decode cX11_table 80 = .ok (.getfield 33, 3) := by decide +kernel
theorem dX11_table_83 : decode cX11_table 83 = .ok (.aload_n 0, 1) := by decide +kernel
theorem dX11_table_84 : decode cX11_table 84 = .ok (.getfield 57, 3) := by decide +kernel
theorem dX11_table_87 : decode cX11_table 87 = .ok (.aload_n 0, 1) := by decide +kernel
theorem dX11_table_88 : decode cX11_table 88 = .ok (.getfield 26, 3) := by decide +kernel
theorem dX11_table_91 : decode cX11_table 91 = .ok (.invokevirtual 181, 3) := by decide +kernel
theorem dX11_table_94 : decode cX11_table 94 = .ok (.istore 4, 2) := by decide +kernel
theorem dX11_table_96 : decode cX11_table 96 = .ok (.iload 4, 2) := by decide +kernel
theorem dX11_table_98 : decode cX11_table 98 = .ok (.iconst (-1), 1) := by decide +kernel
theorem dX11_table_99 : decode cX11_table 99 = .ok (.if_icmp .eq 9, 3) := by decide +kernel
theorem dX11_table_102 : decode cX11_table 102 = .ok (.bipush (-100), 2) := by decide +kernel
theorem dX11_table_104 : decode cX11_table 104 = .ok (.iload 4, 2) := by decide +kernel
theorem dX11_table_106 : decode cX11_table 106 = .ok (.isub, 1) := by decide +kernel
theorem dX11_table_107 : decode cX11_table 107 = .ok (.ireturn, 1) := by decide +kernel
theorem dX11_table_108 : decode cX11_table 108 = .ok (.new 46, 3) := by decide +kernel
theorem dX11_table_111 : decode cX11_table 111 = .ok (.dup, 1) := by decide +kernel
theorem dX11_table_112 : decode cX11_table 112 = .ok (.invokespecial 56, 3) := by decide +kernel
theorem dX11_table_115 : decode cX11_table 115 = .ok (.astore 5, 2) := by decide +kernel
theorem dX11_table_117 : decode cX11_table 117 = .ok (.aload 5, 2) := by decide +kernel
theorem dX11_table_119 : decode cX11_table 119 = .ok (.aload_n 0, 1) := by decide +kernel
theorem dX11_table_120 : decode cX11_table 120 = .ok (.getfield 57, 3) := by decide +kernel
theorem dX11_table_123 : decode cX11_table 123 = .ok (.invokevirtual 185, 3) := by decide +kernel
theorem dX11_table_126 : decode cX11_table 126 = .ok (.aload 5, 2) := by decide +kernel
theorem dX11_table_128 : decode cX11_table 128 = .ok (.iload_n 2, 1) := by decide +kernel
theorem dX11_table_129 : decode cX11_table 129 = .ok (.invokevirtual 189, 3) := by decide +kernel
theorem dX11_table_132 : decode cX11_table 132 = .ok (.aload_n 0, 1) := by decide +kernel
theorem dX11_table_133 : decode cX11_table 133 = .ok (.getfield 48, 3) := by decide +kernel
theorem dX11_table_136 : decode cX11_table 136 = .ok (.aload_n 0, 1) := by decide +kernel
theorem dX11_table_137 : decode cX11_table 137 = .ok (.getfield 52, 3) := by decide +kernel
theorem dX11_table_140 : decode cX11_table 140 = .ok (.aload 5, 2) := by decide +kernel
theorem dX11_table_142 : decode cX11_table 142 = .ok (.aastore, 1) := by decide +kernel
theorem dX11_table_143 : decode cX11_table 143 = .ok (.aload_n 0, 1) := by decide +kernel
theorem dX11_table_144 : decode cX11_table 144 = .ok (.dup, 1) := by decide +kernel
theorem dX11_table_145 : decode cX11_table 145 = .ok (.getfield 52, 3) := by decide +kernel
theorem dX11_table_148 : decode cX11_table 148 = .ok (.iconst 1, 1) := by decide +kernel
theorem dX11_table_149 : decode cX11_table 149 = .ok (.iadd, 1) := by decide +kernel
theorem dX11_table_150 : decode cX11_table 150 = .ok (.putfield 52, 3) := by decide +kernel
theorem dX11_table_153 : decode cX11_table 153 = .ok (.aload_n 0, 1) := by decide +kernel
theorem dX11_table_154 : decode cX11_table 154 = .ok (.getfield 52, 3) := by decide +kernel
theorem dX11_table_157 : decode cX11_table 157 = .ok (.iconst 1, 1) := by decide +kernel
theorem dX11_table_158 : decode cX11_table 158 = .ok (.isub, 1) := by decide +kernel
theorem dX11_table_159 : decode cX11_table 159 = .ok (.ireturn, 1) := by decide +kernel
theorem dX11_ofTable_12 : decode cX11_ofTable 12 = .ok (.iload_n 2, 1) := by decide +kernel
theorem dX11_ofTable_13 : decode cX11_ofTable 13 = .ok (.tableswitch 69 0 5 #[39, 44, 49, 54, 59, 64], 39) := by decide +kernel
theorem dX11_ofTable_52 : decode cX11_ofTable 52 = .ok (.aload_n 3, 1) := by decide +kernel
theorem dX11_ofTable_53 : decode cX11_ofTable 53 = .ok (.getfield 196, 3) := by decide +kernel
theorem dX11_ofTable_56 : decode cX11_ofTable 56 = .ok (.ireturn, 1) := by decide +kernel
theorem dX11_ofTable_57 : decode cX11_ofTable 57 = .ok (.aload_n 3, 1) := by decide +kernel
theorem dX11_ofTable_58 : decode cX11_ofTable 58 = .ok (.getfield 199, 3) := by decide +kernel
theorem dX11_ofTable_61 : decode cX11_ofTable 61 = .ok (.ireturn, 1) := by decide +kernel
theorem dX11_ofTable_62 : decode cX11_ofTable 62 = .ok (.aload_n 3, 1) := by decide +kernel
theorem dX11_ofTable_63 : decode cX11_ofTable 63 = .ok (.getfield 202, 3) := by decide +kernel
theorem dX11_ofTable_66 : decode cX11_ofTable 66 = .ok (.ireturn, 1) := by decide +kernel
theorem dX11_ofTable_67 : decode cX11_ofTable 67 = .ok (.aload_n 3, 1) := by decide +kernel
theorem dX11_ofTable_68 : decode cX11_ofTable 68 = .ok (.getfield 205, 3) := by decide +kernel
theorem dX11_ofTable_71 : decode cX11_ofTable 71 = .ok (.ireturn, 1) := by decide +kernel
theorem dX11_ofTable_72 : decode cX11_ofTable 72 = .ok (.aload_n 3, 1) := by decide +kernel
theorem dX11_ofTable_73 : decode cX11_ofTable 73 = .ok (.getfield 208, 3) := by decide +kernel
theorem dX11_ofTable_76 : decode cX11_ofTable 76 = .ok (.ireturn, 1) := by decide +kernel
theorem dX11_ofTable_77 : decode cX11_ofTable 77 = .ok (.aload_n 3, 1) := by decide +kernel
theorem dX11_ofTable_78 : decode cX11_ofTable 78 = .ok (.invokevirtual 211, 3) := by decide +kernel
theorem dX11_ofTable_81 : decode cX11_ofTable 81 = .ok (.ireturn, 1) := by decide +kernel
theorem dX11_ofTable_82 : decode cX11_ofTable 82 = .ok (.iconst (-1), 1) := by decide +kernel
theorem dX11_ofTable_83 : decode cX11_ofTable 83 = .ok (.ireturn, 1) := by decide +kernel
theorem dX11_seat_10 : decode cX11_seat 10 = .ok (.iload_n 2, 1) := by decide +kernel
theorem dX11_seat_11 : decode cX11_seat 11 = .ok (.invokestatic 215, 3) := by decide +kernel
theorem dX11_seat_14 : decode cX11_seat 14 = .ok (.ifCond .ne 5, 3) := by decide +kernel
theorem dX11_seat_19 : decode cX11_seat 19 = .ok (.aload_n 3, 1) := by decide +kernel
theorem dX11_seat_20 : decode cX11_seat 20 = .ok (.getfield 218, 3) := by decide +kernel
theorem dX11_seat_23 : decode cX11_seat 23 = .ok (.iload_n 2, 1) := by decide +kernel
theorem dX11_seat_24 : decode cX11_seat 24 = .ok (.baload, 1) := by decide +kernel
theorem dX11_seat_25 : decode cX11_seat 25 = .ok (.iconst (-1), 1) := by decide +kernel
theorem dX11_seat_26 : decode cX11_seat 26 = .ok (.if_icmp .ne 8, 3) := by decide +kernel
theorem dX11_seat_29 : decode cX11_seat 29 = .ok (.bipush (-2), 2) := by decide +kernel
theorem dX11_seat_31 : decode cX11_seat 31 = .ok (.goto 9, 3) := by decide +kernel
theorem dX11_seat_34 : decode cX11_seat 34 = .ok (.aload_n 3, 1) := by decide +kernel
theorem dX11_seat_35 : decode cX11_seat 35 = .ok (.getfield 218, 3) := by decide +kernel
theorem dX11_seat_38 : decode cX11_seat 38 = .ok (.iload_n 2, 1) := by decide +kernel
theorem dX11_seat_39 : decode cX11_seat 39 = .ok (.baload, 1) := by decide +kernel
theorem dX11_seat_40 : decode cX11_seat 40 = .ok (.ireturn, 1) := by decide +kernel
theorem dX11_picked_12 : decode cX11_picked 12 = .ok (.iload_n 2, 1) := by decide +kernel
theorem dX11_picked_13 : decode cX11_picked 13 = .ok (.invokestatic 215, 3) := by decide +kernel
theorem dX11_picked_16 : decode cX11_picked 16 = .ok (.ifCond .eq 7, 3) := by decide +kernel
theorem dX11_picked_19 : decode cX11_picked 19 = .ok (.iload_n 3, 1) := by decide +kernel
theorem dX11_picked_20 : decode cX11_picked 20 = .ok (.ifCond .ge 5, 3) := by decide +kernel
theorem dX11_picked_25 : decode cX11_picked 25 = .ok (.aload_n 0, 1) := by decide +kernel
theorem dX11_picked_26 : decode cX11_picked 26 = .ok (.getfield 42, 3) := by decide +kernel
theorem dX11_picked_29 : decode cX11_picked 29 = .ok (.aload 4, 2) := by decide +kernel
theorem dX11_picked_31 : decode cX11_picked 31 = .ok (.iload_n 2, 1) := by decide +kernel
theorem dX11_picked_32 : decode cX11_picked 32 = .ok (.invokevirtual 221, 3) := by decide +kernel
theorem dX11_picked_35 : decode cX11_picked 35 = .ok (.iload_n 3, 1) := by decide +kernel
theorem dX11_picked_36 : decode cX11_picked 36 = .ok (.aload_n 0, 1) := by decide +kernel
theorem dX11_picked_37 : decode cX11_picked 37 = .ok (.getfield 42, 3) := by decide +kernel
theorem dX11_picked_40 : decode cX11_picked 40 = .ok (.getfield 225, 3) := by decide +kernel
theorem dX11_picked_43 : decode cX11_picked 43 = .ok (.if_icmp .ge 15, 3) := by decide +kernel
theorem dX11_picked_46 : decode cX11_picked 46 = .ok (.aload_n 0, 1) := by decide +kernel
theorem dX11_picked_47 : decode cX11_picked 47 = .ok (.getfield 42, 3) := by decide +kernel
theorem dX11_picked_50 : decode cX11_picked 50 = .ok (.getfield 228, 3) := by decide +kernel
theorem dX11_picked_53 : decode cX11_picked 53 = .ok (.iload_n 3, 1) := by decide +kernel
theorem dX11_picked_54 : decode cX11_picked 54 = .ok (.iaload, 1) := by decide +kernel
theorem dX11_picked_55 : decode cX11_picked 55 = .ok (.goto 4, 3) := by decide +kernel
theorem dX11_picked_58 : decode cX11_picked 58 = .ok (.iconst (-1), 1) := by decide +kernel
theorem dX11_picked_59 : decode cX11_picked 59 = .ok (.ireturn, 1) := by decide +kernel
theorem dX11_keeperOf_12 : decode cX11_keeperOf 12 = .ok (.aload_n 0, 1) := by decide +kernel
theorem dX11_keeperOf_13 : decode cX11_keeperOf 13 = .ok (.getfield 19, 3) := by decide +kernel
theorem dX11_keeperOf_16 : decode cX11_keeperOf 16 = .ok (.iload_n 2, 1) := by decide +kernel
theorem dX11_keeperOf_17 : decode cX11_keeperOf 17 = .ok (.invokevirtual 123, 3) := by decide +kernel
theorem dX11_keeperOf_20 : decode cX11_keeperOf 20 = .ok (.ifCond .eq 8, 3) := by decide +kernel
theorem dX11_keeperOf_23 : decode cX11_keeperOf 23 = .ok (.iload_n 3, 1) := by decide +kernel
theorem dX11_keeperOf_24 : decode cX11_keeperOf 24 = .ok (.iconst (-1), 1) := by decide +kernel
theorem dX11_keeperOf_25 : decode cX11_keeperOf 25 = .ok (.if_icmp .ge 5, 3) := by decide +kernel
theorem dX11_keeperOf_30 : decode cX11_keeperOf 30 = .ok (.aload_n 0, 1) := by decide +kernel
theorem dX11_keeperOf_31 : decode cX11_keeperOf 31 = .ok (.getfield 42, 3) := by decide +kernel
theorem dX11_keeperOf_34 : decode cX11_keeperOf 34 = .ok (.aload 4, 2) := by decide +kernel
theorem dX11_keeperOf_36 : decode cX11_keeperOf 36 = .ok (.aload_n 0, 1) := by decide +kernel
theorem dX11_keeperOf_37 : decode cX11_keeperOf 37 = .ok (.getfield 19, 3) := by decide +kernel
theorem dX11_keeperOf_40 : decode cX11_keeperOf 40 = .ok (.iload_n 2, 1) := by decide +kernel
theorem dX11_keeperOf_41 : decode cX11_keeperOf 41 = .ok (.aload 4, 2) := by decide +kernel
theorem dX11_keeperOf_43 : decode cX11_keeperOf 43 = .ok (.getfield 231, 3) := by decide +kernel
theorem dX11_keeperOf_46 : decode cX11_keeperOf 46 = .ok (.invokevirtual 127, 3) := by decide +kernel
theorem dX11_keeperOf_49 : decode cX11_keeperOf 49 = .ok (.invokevirtual 234, 3) := by decide +kernel
theorem dX11_keeperOf_52 : decode cX11_keeperOf 52 = .ok (.iload_n 3, 1) := by decide +kernel
theorem dX11_keeperOf_53 : decode cX11_keeperOf 53 = .ok (.iconst (-1), 1) := by decide +kernel
theorem dX11_keeperOf_54 : decode cX11_keeperOf 54 = .ok (.if_icmp .ne 11, 3) := by decide +kernel
theorem dX11_keeperOf_57 : decode cX11_keeperOf 57 = .ok (.aload_n 0, 1) := by decide +kernel
theorem dX11_keeperOf_58 : decode cX11_keeperOf 58 = .ok (.getfield 42, 3) := by decide +kernel
theorem dX11_keeperOf_61 : decode cX11_keeperOf 61 = .ok (.getfield 237, 3) := by decide +kernel
theorem dX11_keeperOf_64 : decode cX11_keeperOf 64 = .ok (.ireturn, 1) := by decide +kernel
theorem dX11_keeperOf_65 : decode cX11_keeperOf 65 = .ok (.iload_n 3, 1) := by decide +kernel
theorem dX11_keeperOf_66 : decode cX11_keeperOf 66 = .ok (.aload_n 0, 1) := by decide +kernel
theorem dX11_keeperOf_67 : decode cX11_keeperOf 67 = .ok (.getfield 42, 3) := by decide +kernel
theorem dX11_keeperOf_70 : decode cX11_keeperOf 70 = .ok (.getfield 237, 3) := by decide +kernel
theorem dX11_keeperOf_73 : decode cX11_keeperOf 73 = .ok (.if_icmp .ge 15, 3) := by decide +kernel
theorem dX11_keeperOf_76 : decode cX11_keeperOf 76 = .ok (.aload_n 0, 1) := by decide +kernel
theorem dX11_keeperOf_77 : decode cX11_keeperOf 77 = .ok (.getfield 42, 3) := by decide +kernel
theorem dX11_keeperOf_80 : decode cX11_keeperOf 80 = .ok (.getfield 240, 3) := by decide +kernel
theorem dX11_keeperOf_83 : decode cX11_keeperOf 83 = .ok (.iload_n 3, 1) := by decide +kernel
theorem dX11_keeperOf_84 : decode cX11_keeperOf 84 = .ok (.iaload, 1) := by decide +kernel
theorem dX11_keeperOf_85 : decode cX11_keeperOf 85 = .ok (.goto 4, 3) := by decide +kernel
theorem dX11_keeperOf_88 : decode cX11_keeperOf 88 = .ok (.iconst (-1), 1) := by decide +kernel
theorem dX11_keeperOf_89 : decode cX11_keeperOf 89 = .ok (.ireturn, 1) := by decide +kernel
theorem dX11_tooFew_12 : decode cX11_tooFew 12 = .ok (.iconst 0, 1) := by decide +kernel
theorem dX11_tooFew_13 : decode cX11_tooFew 13 = .ok (.istore_n 3, 1) := by decide +kernel
theorem dX11_tooFew_14 : decode cX11_tooFew 14 = .ok (.iconst 0, 1) := by decide +kernel
theorem dX11_tooFew_15 : decode cX11_tooFew 15 = .ok (.istore 4, 2) := by decide +kernel
theorem dX11_tooFew_17 : decode cX11_tooFew 17 = .ok (.iload 4, 2) := by decide +kernel
theorem dX11_tooFew_19 : decode cX11_tooFew 19 = .ok (.aload_n 0, 1) := by decide +kernel
theorem dX11_tooFew_20 : decode cX11_tooFew 20 = .ok (.getfield 19, 3) := by decide +kernel
theorem dX11_tooFew_23 : decode cX11_tooFew 23 = .ok (.getfield 117, 3) := by decide +kernel
theorem dX11_tooFew_26 : decode cX11_tooFew 26 = .ok (.if_icmp .ge 50, 3) := by decide +kernel
theorem dX11_tooFew_29 : decode cX11_tooFew 29 = .ok (.aload_n 0, 1) := by decide +kernel
theorem dX11_tooFew_30 : decode cX11_tooFew 30 = .ok (.getfield 42, 3) := by decide +kernel
theorem dX11_tooFew_33 : decode cX11_tooFew 33 = .ok (.aload_n 2, 1) := by decide +kernel
theorem dX11_tooFew_34 : decode cX11_tooFew 34 = .ok (.aload_n 0, 1) := by decide +kernel
theorem dX11_tooFew_35 : decode cX11_tooFew 35 = .ok (.getfield 19, 3) := by decide +kernel
theorem dX11_tooFew_38 : decode cX11_tooFew 38 = .ok (.iload 4, 2) := by decide +kernel
theorem dX11_tooFew_40 : decode cX11_tooFew 40 = .ok (.aload_n 2, 1) := by decide +kernel
theorem dX11_tooFew_41 : decode cX11_tooFew 41 = .ok (.getfield 231, 3) := by decide +kernel
theorem dX11_tooFew_44 : decode cX11_tooFew 44 = .ok (.invokevirtual 127, 3) := by decide +kernel
theorem dX11_tooFew_47 : decode cX11_tooFew 47 = .ok (.invokevirtual 234, 3) := by decide +kernel
theorem dX11_tooFew_50 : decode cX11_tooFew 50 = .ok (.aload_n 0, 1) := by decide +kernel
theorem dX11_tooFew_51 : decode cX11_tooFew 51 = .ok (.getfield 42, 3) := by decide +kernel
theorem dX11_tooFew_54 : decode cX11_tooFew 54 = .ok (.getfield 243, 3) := by decide +kernel
theorem dX11_tooFew_57 : decode cX11_tooFew 57 = .ok (.invokestatic 246, 3) := by decide +kernel
theorem dX11_tooFew_60 : decode cX11_tooFew 60 = .ok (.aload_n 2, 1) := by decide +kernel
theorem dX11_tooFew_61 : decode cX11_tooFew 61 = .ok (.getfield 205, 3) := by decide +kernel
theorem dX11_tooFew_64 : decode cX11_tooFew 64 = .ok (.if_icmp .ge 6, 3) := by decide +kernel
theorem dX11_tooFew_67 : decode cX11_tooFew 67 = .ok (.iinc 3 1, 3) := by decide +kernel
theorem dX11_tooFew_70 : decode cX11_tooFew 70 = .ok (.iinc 4 1, 3) := by decide +kernel
theorem dX11_tooFew_73 : decode cX11_tooFew 73 = .ok (.goto (-56), 3) := by decide +kernel
theorem dX11_tooFew_76 : decode cX11_tooFew 76 = .ok (.iload_n 3, 1) := by decide +kernel
theorem dX11_tooFew_77 : decode cX11_tooFew 77 = .ok (.ireturn, 1) := by decide +kernel
theorem dX11_share_12 : decode cX11_share 12 = .ok (.aload_n 0, 1) := by decide +kernel
theorem dX11_share_13 : decode cX11_share 13 = .ok (.getfield 26, 3) := by decide +kernel
theorem dX11_share_16 : decode cX11_share 16 = .ok (.iload_n 2, 1) := by decide +kernel
theorem dX11_share_17 : decode cX11_share 17 = .ok (.invokevirtual 137, 3) := by decide +kernel
theorem dX11_share_20 : decode cX11_share 20 = .ok (.ifCond .eq 12, 3) := by decide +kernel
theorem dX11_share_23 : decode cX11_share 23 = .ok (.iload_n 3, 1) := by decide +kernel
theorem dX11_share_24 : decode cX11_share 24 = .ok (.ifCond .lt 8, 3) := by decide +kernel
theorem dX11_share_27 : decode cX11_share 27 = .ok (.iload_n 3, 1) := by decide +kernel
theorem dX11_share_28 : decode cX11_share 28 = .ok (.iconst 1, 1) := by decide +kernel
theorem dX11_share_29 : decode cX11_share 29 = .ok (.if_icmp .le 5, 3) := by decide +kernel
theorem dX11_share_34 : decode cX11_share 34 = .ok (.iload_n 3, 1) := by decide +kernel
theorem dX11_share_35 : decode cX11_share 35 = .ok (.iconst 1, 1) := by decide +kernel
theorem dX11_share_36 : decode cX11_share 36 = .ok (.if_icmp .ne 16, 3) := by decide +kernel
theorem dX11_share_39 : decode cX11_share 39 = .ok (.aload 4, 2) := by decide +kernel
theorem dX11_share_41 : decode cX11_share 41 = .ok (.invokevirtual 251, 3) := by decide +kernel
theorem dX11_share_44 : decode cX11_share 44 = .ok (.aload 4, 2) := by decide +kernel
theorem dX11_share_46 : decode cX11_share 46 = .ok (.getfield 254, 3) := by decide +kernel
theorem dX11_share_49 : decode cX11_share 49 = .ok (.iload_n 2, 1) := by decide +kernel
theorem dX11_share_50 : decode cX11_share 50 = .ok (.iaload, 1) := by decide +kernel
theorem dX11_share_51 : decode cX11_share 51 = .ok (.ireturn, 1) := by decide +kernel
theorem dX11_share_52 : decode cX11_share 52 = .ok (.iconst 0, 1) := by decide +kernel
theorem dX11_share_53 : decode cX11_share 53 = .ok (.istore 5, 2) := by decide +kernel
theorem dX11_share_55 : decode cX11_share 55 = .ok (.iconst 0, 1) := by decide +kernel
theorem dX11_share_56 : decode cX11_share 56 = .ok (.istore 6, 2) := by decide +kernel
theorem dX11_share_58 : decode cX11_share 58 = .ok (.iload 6, 2) := by decide +kernel
theorem dX11_share_60 : decode cX11_share 60 = .ok (.aload_n 0, 1) := by decide +kernel
theorem dX11_share_61 : decode cX11_share 61 = .ok (.getfield 19, 3) := by decide +kernel
theorem dX11_share_64 : decode cX11_share 64 = .ok (.getfield 117, 3) := by decide +kernel
theorem dX11_share_67 : decode cX11_share 67 = .ok (.if_icmp .ge 35, 3) := by decide +kernel
theorem dX11_share_70 : decode cX11_share 70 = .ok (.aload 4, 2) := by decide +kernel
theorem dX11_share_72 : decode cX11_share 72 = .ok (.aload_n 0, 1) := by decide +kernel
theorem dX11_share_73 : decode cX11_share 73 = .ok (.getfield 19, 3) := by decide +kernel
theorem dX11_share_76 : decode cX11_share 76 = .ok (.iload 6, 2) := by decide +kernel
theorem dX11_share_78 : decode cX11_share 78 = .ok (.aload 4, 2) := by decide +kernel
theorem dX11_share_80 : decode cX11_share 80 = .ok (.getfield 231, 3) := by decide +kernel
theorem dX11_share_83 : decode cX11_share 83 = .ok (.invokevirtual 127, 3) := by decide +kernel
theorem dX11_share_86 : decode cX11_share 86 = .ok (.invokevirtual 257, 3) := by decide +kernel
theorem dX11_share_89 : decode cX11_share 89 = .ok (.iload_n 2, 1) := by decide +kernel
theorem dX11_share_90 : decode cX11_share 90 = .ok (.if_icmp .ne 6, 3) := by decide +kernel
theorem dX11_share_93 : decode cX11_share 93 = .ok (.iinc 5 1, 3) := by decide +kernel
theorem dX11_share_96 : decode cX11_share 96 = .ok (.iinc 6 1, 3) := by decide +kernel
theorem dX11_share_99 : decode cX11_share 99 = .ok (.goto (-41), 3) := by decide +kernel
theorem dX11_share_102 : decode cX11_share 102 = .ok (.iload 5, 2) := by decide +kernel
theorem dX11_share_104 : decode cX11_share 104 = .ok (.ireturn, 1) := by decide +kernel
theorem dX11_moves_19 : decode cX11_moves 19 = .ok (.aload 5, 2) := by decide +kernel
theorem dX11_moves_21 : decode cX11_moves 21 = .ok (.ifnull 12, 3) := by decide +kernel
theorem dX11_moves_24 : decode cX11_moves 24 = .ok (.iload_n 3, 1) := by decide +kernel
theorem dX11_moves_25 : decode cX11_moves 25 = .ok (.ifCond .lt 8, 3) := by decide +kernel
theorem dX11_moves_28 : decode cX11_moves 28 = .ok (.iload_n 3, 1) := by decide +kernel
theorem dX11_moves_29 : decode cX11_moves 29 = .ok (.iconst 1, 1) := by decide +kernel
theorem dX11_moves_30 : decode cX11_moves 30 = .ok (.if_icmp .le 5, 3) := by decide +kernel
theorem dX11_moves_35 : decode cX11_moves 35 = .ok (.aload 4, 2) := by decide +kernel
theorem dX11_moves_37 : decode cX11_moves 37 = .ok (.aload 5, 2) := by decide +kernel
theorem dX11_moves_39 : decode cX11_moves 39 = .ok (.invokevirtual 260, 3) := by decide +kernel
theorem dX11_moves_42 : decode cX11_moves 42 = .ok (.istore 6, 2) := by decide +kernel
theorem dX11_moves_44 : decode cX11_moves 44 = .ok (.iconst 0, 1) := by decide +kernel
theorem dX11_moves_45 : decode cX11_moves 45 = .ok (.istore 7, 2) := by decide +kernel
theorem dX11_moves_47 : decode cX11_moves 47 = .ok (.iconst 0, 1) := by decide +kernel
theorem dX11_moves_48 : decode cX11_moves 48 = .ok (.istore 8, 2) := by decide +kernel
theorem dX11_moves_50 : decode cX11_moves 50 = .ok (.iload 8, 2) := by decide +kernel
theorem dX11_moves_52 : decode cX11_moves 52 = .ok (.aload_n 0, 1) := by decide +kernel
theorem dX11_moves_53 : decode cX11_moves 53 = .ok (.getfield 19, 3) := by decide +kernel
theorem dX11_moves_56 : decode cX11_moves 56 = .ok (.getfield 117, 3) := by decide +kernel
theorem dX11_moves_59 : decode cX11_moves 59 = .ok (.if_icmp .ge 114, 3) := by decide +kernel
theorem dX11_moves_62 : decode cX11_moves 62 = .ok (.aload_n 0, 1) := by decide +kernel
theorem dX11_moves_63 : decode cX11_moves 63 = .ok (.getfield 42, 3) := by decide +kernel
theorem dX11_moves_66 : decode cX11_moves 66 = .ok (.aload 4, 2) := by decide +kernel
theorem dX11_moves_68 : decode cX11_moves 68 = .ok (.aload_n 0, 1) := by decide +kernel
theorem dX11_moves_69 : decode cX11_moves 69 = .ok (.getfield 19, 3) := by decide +kernel
theorem dX11_moves_72 : decode cX11_moves 72 = .ok (.iload 8, 2) := by decide +kernel
theorem dX11_moves_74 : decode cX11_moves 74 = .ok (.aload 4, 2) := by decide +kernel
theorem dX11_moves_76 : decode cX11_moves 76 = .ok (.getfield 231, 3) := by decide +kernel
theorem dX11_moves_79 : decode cX11_moves 79 = .ok (.invokevirtual 127, 3) := by decide +kernel
theorem dX11_moves_82 : decode cX11_moves 82 = .ok (.invokevirtual 234, 3) := by decide +kernel
theorem dX11_moves_85 : decode cX11_moves 85 = .ok (.aload_n 0, 1) := by decide +kernel
theorem dX11_moves_86 : decode cX11_moves 86 = .ok (.getfield 42, 3) := by decide +kernel
theorem dX11_moves_89 : decode cX11_moves 89 = .ok (.getfield 264, 3) := by decide +kernel
theorem dX11_moves_92 : decode cX11_moves 92 = .ok (.istore 9, 2) := by decide +kernel
theorem dX11_moves_94 : decode cX11_moves 94 = .ok (.aload_n 0, 1) := by decide +kernel
theorem dX11_moves_95 : decode cX11_moves 95 = .ok (.getfield 42, 3) := by decide +kernel
theorem dX11_moves_98 : decode cX11_moves 98 = .ok (.aload 5, 2) := by decide +kernel
theorem dX11_moves_100 : decode cX11_moves 100 = .ok (.aload_n 0, 1) := by decide +kernel
theorem dX11_moves_101 : decode cX11_moves 101 = .ok (.getfield 19, 3) := by decide +kernel
theorem dX11_moves_104 : decode cX11_moves 104 = .ok (.iload 8, 2) := by decide +kernel
theorem dX11_moves_106 : decode cX11_moves 106 = .ok (.aload 5, 2) := by decide +kernel
theorem dX11_moves_108 : decode cX11_moves 108 = .ok (.getfield 231, 3) := by decide +kernel
theorem dX11_moves_111 : decode cX11_moves 111 = .ok (.invokevirtual 127, 3) := by decide +kernel
theorem dX11_moves_114 : decode cX11_moves 114 = .ok (.invokevirtual 234, 3) := by decide +kernel
theorem dX11_moves_117 : decode cX11_moves 117 = .ok (.aload_n 0, 1) := by decide +kernel
theorem dX11_moves_118 : decode cX11_moves 118 = .ok (.getfield 42, 3) := by decide +kernel
theorem dX11_moves_121 : decode cX11_moves 121 = .ok (.getfield 264, 3) := by decide +kernel
theorem dX11_moves_124 : decode cX11_moves 124 = .ok (.iload 9, 2) := by decide +kernel
theorem dX11_moves_126 : decode cX11_moves 126 = .ok (.iconst (-1), 1) := by decide +kernel
theorem dX11_moves_127 : decode cX11_moves 127 = .ok (.ixor, 1) := by decide +kernel
theorem dX11_moves_128 : decode cX11_moves 128 = .ok (.iand, 1) := by decide +kernel
theorem dX11_moves_129 : decode cX11_moves 129 = .ok (.istore 10, 2) := by decide +kernel
theorem dX11_moves_131 : decode cX11_moves 131 = .ok (.iload_n 3, 1) := by decide +kernel
theorem dX11_moves_132 : decode cX11_moves 132 = .ok (.iconst 1, 1) := by decide +kernel
theorem dX11_moves_133 : decode cX11_moves 133 = .ok (.if_icmp .ne 24, 3) := by decide +kernel
theorem dX11_moves_136 : decode cX11_moves 136 = .ok (.iload 9, 2) := by decide +kernel
theorem dX11_moves_138 : decode cX11_moves 138 = .ok (.iload 6, 2) := by decide +kernel
theorem dX11_moves_140 : decode cX11_moves 140 = .ok (.iconst (-1), 1) := by decide +kernel
theorem dX11_moves_141 : decode cX11_moves 141 = .ok (.ixor, 1) := by decide +kernel
theorem dX11_moves_142 : decode cX11_moves 142 = .ok (.iand, 1) := by decide +kernel
theorem dX11_moves_143 : decode cX11_moves 143 = .ok (.ifCond .ne 11, 3) := by decide +kernel
theorem dX11_moves_146 : decode cX11_moves 146 = .ok (.iload 10, 2) := by decide +kernel
theorem dX11_moves_148 : decode cX11_moves 148 = .ok (.iload 6, 2) := by decide +kernel
theorem dX11_moves_150 : decode cX11_moves 150 = .ok (.iand, 1) := by decide +kernel
theorem dX11_moves_151 : decode cX11_moves 151 = .ok (.goto 4, 3) := by decide +kernel
theorem dX11_moves_154 : decode cX11_moves 154 = .ok (.iconst 0, 1) := by decide +kernel
theorem dX11_moves_155 : decode cX11_moves 155 = .ok (.istore 10, 2) := by decide +kernel
theorem dX11_moves_157 : decode cX11_moves 157 = .ok (.iload 7, 2) := by decide +kernel
theorem dX11_moves_159 : decode cX11_moves 159 = .ok (.iload 10, 2) := by decide +kernel
theorem dX11_moves_161 : decode cX11_moves 161 = .ok (.invokestatic 246, 3) := by decide +kernel
theorem dX11_moves_164 : decode cX11_moves 164 = .ok (.iadd, 1) := by decide +kernel
theorem dX11_moves_165 : decode cX11_moves 165 = .ok (.istore 7, 2) := by decide +kernel
theorem dX11_moves_167 : decode cX11_moves 167 = .ok (.iinc 8 1, 3) := by decide +kernel
theorem dX11_moves_170 : decode cX11_moves 170 = .ok (.goto (-120), 3) := by decide +kernel
theorem dX11_moves_173 : decode cX11_moves 173 = .ok (.iload 7, 2) := by decide +kernel
theorem dX11_moves_175 : decode cX11_moves 175 = .ok (.ireturn, 1) := by decide +kernel
theorem dX11_tableAt_12 : decode cX11_tableAt 12 = .ok (.aload_n 0, 1) := by decide +kernel
theorem dX11_tableAt_13 : decode cX11_tableAt 13 = .ok (.getfield 48, 3) := by decide +kernel
theorem dX11_tableAt_16 : decode cX11_tableAt 16 = .ok (.iload_n 1, 1) := by decide +kernel
theorem dX11_tableAt_17 : decode cX11_tableAt 17 = .ok (.aaload, 1) := by decide +kernel
theorem dX11_tableAt_18 : decode cX11_tableAt 18 = .ok (.goto 4, 3) := by decide +kernel
theorem dX11_knows_11 : decode cX11_knows 11 = .ok (.iload_n 2, 1) := by decide +kernel
theorem dX11_knows_12 : decode cX11_knows 12 = .ok (.iconst (-1), 1) := by decide +kernel
theorem dX11_knows_13 : decode cX11_knows 13 = .ok (.if_icmp .lt 11, 3) := by decide +kernel
theorem dX11_knows_16 : decode cX11_knows 16 = .ok (.iload_n 2, 1) := by decide +kernel
theorem dX11_knows_17 : decode cX11_knows 17 = .ok (.aload_n 0, 1) := by decide +kernel
theorem dX11_knows_18 : decode cX11_knows 18 = .ok (.getfield 52, 3) := by decide +kernel
theorem dX11_knows_21 : decode cX11_knows 21 = .ok (.if_icmp .lt 6, 3) := by decide +kernel
theorem dX11_knows_27 : decode cX11_knows 27 = .ok (.aload_n 0, 1) := by decide +kernel
theorem dX11_knows_28 : decode cX11_knows 28 = .ok (.getfield 26, 3) := by decide +kernel
theorem dX11_knows_31 : decode cX11_knows 31 = .ok (.getfield 160, 3) := by decide +kernel
theorem dX11_knows_34 : decode cX11_knows 34 = .ok (.iload_n 1, 1) := by decide +kernel
theorem dX11_knows_35 : decode cX11_knows 35 = .ok (.iaload, 1) := by decide +kernel
theorem dX11_knows_36 : decode cX11_knows 36 = .ok (.istore_n 3, 1) := by decide +kernel
theorem dX11_knows_37 : decode cX11_knows 37 = .ok (.aload_n 0, 1) := by decide +kernel
theorem dX11_knows_38 : decode cX11_knows 38 = .ok (.getfield 26, 3) := by decide +kernel
theorem dX11_knows_41 : decode cX11_knows 41 = .ok (.getfield 160, 3) := by decide +kernel
theorem dX11_knows_44 : decode cX11_knows 44 = .ok (.iload_n 1, 1) := by decide +kernel
theorem dX11_knows_45 : decode cX11_knows 45 = .ok (.iload_n 2, 1) := by decide +kernel
theorem dX11_knows_46 : decode cX11_knows 46 = .ok (.iastore, 1) := by decide +kernel
theorem dX11_knows_47 : decode cX11_knows 47 = .ok (.iload_n 3, 1) := by decide +kernel
theorem dX11_knows_48 : decode cX11_knows 48 = .ok (.ireturn, 1) := by decide +kernel
theorem dX11_write_11 : decode cX11_write 11 = .ok (.aload_n 0, 1) := by decide +kernel
theorem dX11_write_12 : decode cX11_write 12 = .ok (.getfield 19, 3) := by decide +kernel
theorem dX11_write_15 : decode cX11_write 15 = .ok (.iload_n 2, 1) := by decide +kernel
theorem dX11_write_16 : decode cX11_write 16 = .ok (.invokevirtual 123, 3) := by decide +kernel
theorem dX11_write_19 : decode cX11_write 19 = .ok (.ifCond .ne 5, 3) := by decide +kernel
theorem dX11_write_24 : decode cX11_write 24 = .ok (.aload_n 0, 1) := by decide +kernel
theorem dX11_write_25 : decode cX11_write 25 = .ok (.aload_n 0, 1) := by decide +kernel
theorem dX11_write_26 : decode cX11_write 26 = .ok (.getfield 26, 3) := by decide +kernel
theorem dX11_write_29 : decode cX11_write 29 = .ok (.getfield 160, 3) := by decide +kernel
theorem dX11_write_32 : decode cX11_write 32 = .ok (.iload_n 1, 1) := by decide +kernel
theorem dX11_write_33 : decode cX11_write 33 = .ok (.iaload, 1) := by decide +kernel
theorem dX11_write_34 : decode cX11_write 34 = .ok (.invokevirtual 192, 3) := by decide +kernel
theorem dX11_write_37 : decode cX11_write 37 = .ok (.astore_n 3, 1) := by decide +kernel
theorem dX11_write_38 : decode cX11_write 38 = .ok (.aload_n 3, 1) := by decide +kernel
theorem dX11_write_39 : decode cX11_write 39 = .ok (.ifnull 14, 3) := by decide +kernel
theorem dX11_write_42 : decode cX11_write 42 = .ok (.aload_n 0, 1) := by decide +kernel
theorem dX11_write_43 : decode cX11_write 43 = .ok (.getfield 26, 3) := by decide +kernel
theorem dX11_write_46 : decode cX11_write 46 = .ok (.iload_n 1, 1) := by decide +kernel
theorem dX11_write_47 : decode cX11_write 47 = .ok (.invokevirtual 267, 3) := by decide +kernel
theorem dX11_write_50 : decode cX11_write 50 = .ok (.ifCond .ne 6, 3) := by decide +kernel
theorem dX11_write_53 : decode cX11_write 53 = .ok (.bipush (-5), 2) := by decide +kernel
theorem dX11_write_55 : decode cX11_write 55 = .ok (.ireturn, 1) := by decide +kernel
theorem dX11_write_56 : decode cX11_write 56 = .ok (.aload_n 0, 1) := by decide +kernel
theorem dX11_write_57 : decode cX11_write 57 = .ok (.getfield 66, 3) := by decide +kernel
theorem dX11_write_60 : decode cX11_write 60 = .ok (.aload_n 3, 1) := by decide +kernel
theorem dX11_write_61 : decode cX11_write 61 = .ok (.iload_n 2, 1) := by decide +kernel
theorem dX11_write_62 : decode cX11_write 62 = .ok (.invokevirtual 270, 3) := by decide +kernel
theorem dX11_write_65 : decode cX11_write 65 = .ok (.ireturn, 1) := by decide +kernel
theorem dX11_read_11 : decode cX11_read 11 = .ok (.aload_n 0, 1) := by decide +kernel
theorem dX11_read_12 : decode cX11_read 12 = .ok (.getfield 19, 3) := by decide +kernel
theorem dX11_read_15 : decode cX11_read 15 = .ok (.iload_n 2, 1) := by decide +kernel
theorem dX11_read_16 : decode cX11_read 16 = .ok (.invokevirtual 123, 3) := by decide +kernel
theorem dX11_read_19 : decode cX11_read 19 = .ok (.ifCond .ne 5, 3) := by decide +kernel
theorem dX11_read_24 : decode cX11_read 24 = .ok (.aload_n 0, 1) := by decide +kernel
theorem dX11_read_25 : decode cX11_read 25 = .ok (.aload_n 0, 1) := by decide +kernel
theorem dX11_read_26 : decode cX11_read 26 = .ok (.getfield 26, 3) := by decide +kernel
theorem dX11_read_29 : decode cX11_read 29 = .ok (.getfield 160, 3) := by decide +kernel
theorem dX11_read_32 : decode cX11_read 32 = .ok (.iload_n 1, 1) := by decide +kernel
theorem dX11_read_33 : decode cX11_read 33 = .ok (.iaload, 1) := by decide +kernel
theorem dX11_read_34 : decode cX11_read 34 = .ok (.invokevirtual 192, 3) := by decide +kernel
theorem dX11_read_37 : decode cX11_read 37 = .ok (.astore_n 3, 1) := by decide +kernel
theorem dX11_read_38 : decode cX11_read 38 = .ok (.aload_n 3, 1) := by decide +kernel
theorem dX11_read_39 : decode cX11_read 39 = .ok (.ifnull 14, 3) := by decide +kernel
theorem dX11_read_42 : decode cX11_read 42 = .ok (.aload_n 0, 1) := by decide +kernel
theorem dX11_read_43 : decode cX11_read 43 = .ok (.getfield 26, 3) := by decide +kernel
theorem dX11_read_46 : decode cX11_read 46 = .ok (.iload_n 1, 1) := by decide +kernel
theorem dX11_read_47 : decode cX11_read 47 = .ok (.invokevirtual 267, 3) := by decide +kernel
theorem dX11_read_50 : decode cX11_read 50 = .ok (.ifCond .ne 6, 3) := by decide +kernel
theorem dX11_read_53 : decode cX11_read 53 = .ok (.bipush (-5), 2) := by decide +kernel
theorem dX11_read_55 : decode cX11_read 55 = .ok (.ireturn, 1) := by decide +kernel
theorem dX11_read_56 : decode cX11_read 56 = .ok (.aload_n 0, 1) := by decide +kernel
theorem dX11_read_57 : decode cX11_read 57 = .ok (.getfield 66, 3) := by decide +kernel
theorem dX11_read_60 : decode cX11_read 60 = .ok (.aload_n 3, 1) := by decide +kernel
theorem dX11_read_61 : decode cX11_read 61 = .ok (.iload_n 2, 1) := by decide +kernel
theorem dX11_read_62 : decode cX11_read 62 = .ok (.invokevirtual 274, 3) := by decide +kernel
theorem dX11_read_65 : decode cX11_read 65 = .ok (.ireturn, 1) := by decide +kernel
theorem dX11_onShelf_11 : decode cX11_onShelf 11 = .ok (.aload_n 0, 1) := by decide +kernel
theorem dX11_onShelf_12 : decode cX11_onShelf 12 = .ok (.getfield 19, 3) := by decide +kernel
theorem dX11_onShelf_15 : decode cX11_onShelf 15 = .ok (.iload_n 2, 1) := by decide +kernel
theorem dX11_onShelf_16 : decode cX11_onShelf 16 = .ok (.invokevirtual 123, 3) := by decide +kernel
theorem dX11_onShelf_19 : decode cX11_onShelf 19 = .ok (.ifCond .ne 5, 3) := by decide +kernel
theorem dX11_onShelf_24 : decode cX11_onShelf 24 = .ok (.iload_n 3, 1) := by decide +kernel
theorem dX11_onShelf_25 : decode cX11_onShelf 25 = .ok (.tableswitch 98 0 3 #[31, 43, 55, 86], 31) := by decide +kernel
theorem dX11_onShelf_56 : decode cX11_onShelf 56 = .ok (.aload_n 0, 1) := by decide +kernel
theorem dX11_onShelf_57 : decode cX11_onShelf 57 = .ok (.getfield 66, 3) := by decide +kernel
theorem dX11_onShelf_60 : decode cX11_onShelf 60 = .ok (.getfield 277, 3) := by decide +kernel
theorem dX11_onShelf_63 : decode cX11_onShelf 63 = .ok (.iload_n 1, 1) := by decide +kernel
theorem dX11_onShelf_64 : decode cX11_onShelf 64 = .ok (.aaload, 1) := by decide +kernel
theorem dX11_onShelf_65 : decode cX11_onShelf 65 = .ok (.iload_n 2, 1) := by decide +kernel
theorem dX11_onShelf_66 : decode cX11_onShelf 66 = .ok (.iaload, 1) := by decide +kernel
theorem dX11_onShelf_67 : decode cX11_onShelf 67 = .ok (.ireturn, 1) := by decide +kernel
theorem dX11_onShelf_68 : decode cX11_onShelf 68 = .ok (.aload_n 0, 1) := by decide +kernel
theorem dX11_onShelf_69 : decode cX11_onShelf 69 = .ok (.getfield 66, 3) := by decide +kernel
theorem dX11_onShelf_72 : decode cX11_onShelf 72 = .ok (.getfield 281, 3) := by decide +kernel
theorem dX11_onShelf_75 : decode cX11_onShelf 75 = .ok (.iload_n 1, 1) := by decide +kernel
theorem dX11_onShelf_76 : decode cX11_onShelf 76 = .ok (.aaload, 1) := by decide +kernel
theorem dX11_onShelf_77 : decode cX11_onShelf 77 = .ok (.iload_n 2, 1) := by decide +kernel
theorem dX11_onShelf_78 : decode cX11_onShelf 78 = .ok (.iaload, 1) := by decide +kernel
theorem dX11_onShelf_79 : decode cX11_onShelf 79 = .ok (.ireturn, 1) := by decide +kernel
theorem dX11_onShelf_80 : decode cX11_onShelf 80 = .ok (.aload_n 0, 1) := by decide +kernel
theorem dX11_onShelf_81 : decode cX11_onShelf 81 = .ok (.getfield 66, 3) := by decide +kernel
theorem dX11_onShelf_84 : decode cX11_onShelf 84 = .ok (.getfield 281, 3) := by decide +kernel
theorem dX11_onShelf_87 : decode cX11_onShelf 87 = .ok (.iload_n 1, 1) := by decide +kernel
theorem dX11_onShelf_88 : decode cX11_onShelf 88 = .ok (.aaload, 1) := by decide +kernel
theorem dX11_onShelf_89 : decode cX11_onShelf 89 = .ok (.iload_n 2, 1) := by decide +kernel
theorem dX11_onShelf_90 : decode cX11_onShelf 90 = .ok (.iaload, 1) := by decide +kernel
theorem dX11_onShelf_91 : decode cX11_onShelf 91 = .ok (.ifCond .ne 8, 3) := by decide +kernel
theorem dX11_onShelf_94 : decode cX11_onShelf 94 = .ok (.bipush (-2), 2) := by decide +kernel
theorem dX11_onShelf_96 : decode cX11_onShelf 96 = .ok (.goto 14, 3) := by decide +kernel
theorem dX11_onShelf_99 : decode cX11_onShelf 99 = .ok (.aload_n 0, 1) := by decide +kernel
theorem dX11_onShelf_100 : decode cX11_onShelf 100 = .ok (.getfield 66, 3) := by decide +kernel
theorem dX11_onShelf_103 : decode cX11_onShelf 103 = .ok (.getfield 284, 3) := by decide +kernel
theorem dX11_onShelf_106 : decode cX11_onShelf 106 = .ok (.iload_n 1, 1) := by decide +kernel
theorem dX11_onShelf_107 : decode cX11_onShelf 107 = .ok (.aaload, 1) := by decide +kernel
theorem dX11_onShelf_108 : decode cX11_onShelf 108 = .ok (.iload_n 2, 1) := by decide +kernel
theorem dX11_onShelf_109 : decode cX11_onShelf 109 = .ok (.iaload, 1) := by decide +kernel
theorem dX11_onShelf_110 : decode cX11_onShelf 110 = .ok (.ireturn, 1) := by decide +kernel
theorem dX11_onShelf_111 : decode cX11_onShelf 111 = .ok (.aload_n 0, 1) := by decide +kernel
theorem dX11_onShelf_112 : decode cX11_onShelf 112 = .ok (.getfield 66, 3) := by decide +kernel
theorem dX11_onShelf_115 : decode cX11_onShelf 115 = .ok (.getfield 287, 3) := by decide +kernel
theorem dX11_onShelf_118 : decode cX11_onShelf 118 = .ok (.iload_n 1, 1) := by decide +kernel
theorem dX11_onShelf_119 : decode cX11_onShelf 119 = .ok (.aaload, 1) := by decide +kernel
theorem dX11_onShelf_120 : decode cX11_onShelf 120 = .ok (.iload_n 2, 1) := by decide +kernel
theorem dX11_onShelf_121 : decode cX11_onShelf 121 = .ok (.iaload, 1) := by decide +kernel
theorem dX11_onShelf_122 : decode cX11_onShelf 122 = .ok (.ireturn, 1) := by decide +kernel
theorem dX11_onShelf_123 : decode cX11_onShelf 123 = .ok (.iconst (-1), 1) := by decide +kernel
theorem dX11_onShelf_124 : decode cX11_onShelf 124 = .ok (.ireturn, 1) := by decide +kernel
theorem dX11_fall_11 : decode cX11_fall 11 = .ok (.iload_n 2, 1) := by decide +kernel
theorem dX11_fall_12 : decode cX11_fall 12 = .ok (.ifCond .lt 8, 3) := by decide +kernel
theorem dX11_fall_15 : decode cX11_fall 15 = .ok (.iload_n 2, 1) := by decide +kernel
theorem dX11_fall_16 : decode cX11_fall 16 = .ok (.iconst 1, 1) := by decide +kernel
theorem dX11_fall_17 : decode cX11_fall 17 = .ok (.if_icmp .le 5, 3) := by decide +kernel
theorem dX11_fall_22 : decode cX11_fall 22 = .ok (.aload_n 0, 1) := by decide +kernel
theorem dX11_fall_23 : decode cX11_fall 23 = .ok (.getfield 26, 3) := by decide +kernel
theorem dX11_fall_26 : decode cX11_fall 26 = .ok (.getfield 169, 3) := by decide +kernel
theorem dX11_fall_29 : decode cX11_fall 29 = .ok (.iload_n 1, 1) := by decide +kernel
theorem dX11_fall_30 : decode cX11_fall 30 = .ok (.baload, 1) := by decide +kernel
theorem dX11_fall_31 : decode cX11_fall 31 = .ok (.ifCond .eq 7, 3) := by decide +kernel
theorem dX11_fall_34 : decode cX11_fall 34 = .ok (.iconst 1, 1) := by decide +kernel
theorem dX11_fall_35 : decode cX11_fall 35 = .ok (.goto 4, 3) := by decide +kernel
theorem dX11_fall_38 : decode cX11_fall 38 = .ok (.iconst 0, 1) := by decide +kernel
theorem dX11_fall_39 : decode cX11_fall 39 = .ok (.istore_n 3, 1) := by decide +kernel
theorem dX11_fall_40 : decode cX11_fall 40 = .ok (.aload_n 0, 1) := by decide +kernel
theorem dX11_fall_41 : decode cX11_fall 41 = .ok (.getfield 26, 3) := by decide +kernel
theorem dX11_fall_44 : decode cX11_fall 44 = .ok (.getfield 169, 3) := by decide +kernel
theorem dX11_fall_47 : decode cX11_fall 47 = .ok (.iload_n 1, 1) := by decide +kernel
theorem dX11_fall_48 : decode cX11_fall 48 = .ok (.iload_n 2, 1) := by decide +kernel
theorem dX11_fall_49 : decode cX11_fall 49 = .ok (.iconst 1, 1) := by decide +kernel
theorem dX11_fall_50 : decode cX11_fall 50 = .ok (.if_icmp .ne 7, 3) := by decide +kernel
theorem dX11_fall_53 : decode cX11_fall 53 = .ok (.iconst 1, 1) := by decide +kernel
theorem dX11_fall_54 : decode cX11_fall 54 = .ok (.goto 4, 3) := by decide +kernel
theorem dX11_fall_57 : decode cX11_fall 57 = .ok (.iconst 0, 1) := by decide +kernel
theorem dX11_fall_58 : decode cX11_fall 58 = .ok (.bastore, 1) := by decide +kernel
theorem dX11_fall_59 : decode cX11_fall 59 = .ok (.iload_n 2, 1) := by decide +kernel
theorem dX11_fall_60 : decode cX11_fall 60 = .ok (.iconst 1, 1) := by decide +kernel
theorem dX11_fall_61 : decode cX11_fall 61 = .ok (.if_icmp .ne 11, 3) := by decide +kernel
theorem dX11_fall_64 : decode cX11_fall 64 = .ok (.aload_n 0, 1) := by decide +kernel
theorem dX11_fall_65 : decode cX11_fall 65 = .ok (.getfield 66, 3) := by decide +kernel
theorem dX11_fall_68 : decode cX11_fall 68 = .ok (.iload_n 1, 1) := by decide +kernel
theorem dX11_fall_69 : decode cX11_fall 69 = .ok (.invokevirtual 290, 3) := by decide +kernel
theorem dX11_fall_72 : decode cX11_fall 72 = .ok (.iload_n 3, 1) := by decide +kernel
theorem dX11_fall_73 : decode cX11_fall 73 = .ok (.ireturn, 1) := by decide +kernel
theorem dX11_half_11 : decode cX11_half 11 = .ok (.aload_n 0, 1) := by decide +kernel
theorem dX11_half_12 : decode cX11_half 12 = .ok (.getfield 26, 3) := by decide +kernel
theorem dX11_half_15 : decode cX11_half 15 = .ok (.iload_n 2, 1) := by decide +kernel
theorem dX11_half_16 : decode cX11_half 16 = .ok (.invokevirtual 137, 3) := by decide +kernel
theorem dX11_half_19 : decode cX11_half 19 = .ok (.ifCond .eq 19, 3) := by decide +kernel
theorem dX11_half_22 : decode cX11_half 22 = .ok (.aload_n 0, 1) := by decide +kernel
theorem dX11_half_23 : decode cX11_half 23 = .ok (.getfield 26, 3) := by decide +kernel
theorem dX11_half_26 : decode cX11_half 26 = .ok (.iload_n 3, 1) := by decide +kernel
theorem dX11_half_27 : decode cX11_half 27 = .ok (.invokevirtual 137, 3) := by decide +kernel
theorem dX11_half_30 : decode cX11_half 30 = .ok (.ifCond .eq 8, 3) := by decide +kernel
theorem dX11_half_33 : decode cX11_half 33 = .ok (.iload_n 2, 1) := by decide +kernel
theorem dX11_half_34 : decode cX11_half 34 = .ok (.iload_n 3, 1) := by decide +kernel
theorem dX11_half_35 : decode cX11_half 35 = .ok (.if_icmp .ne 5, 3) := by decide +kernel
theorem dX11_half_40 : decode cX11_half 40 = .ok (.aload_n 0, 1) := by decide +kernel
theorem dX11_half_41 : decode cX11_half 41 = .ok (.getfield 66, 3) := by decide +kernel
theorem dX11_half_44 : decode cX11_half 44 = .ok (.getfield 277, 3) := by decide +kernel
theorem dX11_half_47 : decode cX11_half 47 = .ok (.iload_n 2, 1) := by decide +kernel
theorem dX11_half_48 : decode cX11_half 48 = .ok (.aaload, 1) := by decide +kernel
theorem dX11_half_49 : decode cX11_half 49 = .ok (.iload_n 1, 1) := by decide +kernel
theorem dX11_half_50 : decode cX11_half 50 = .ok (.iaload, 1) := by decide +kernel
theorem dX11_half_51 : decode cX11_half 51 = .ok (.ifCond .ne 6, 3) := by decide +kernel
theorem dX11_half_54 : decode cX11_half 54 = .ok (.bipush (-2), 2) := by decide +kernel
theorem dX11_half_56 : decode cX11_half 56 = .ok (.ireturn, 1) := by decide +kernel
theorem dX11_half_57 : decode cX11_half 57 = .ok (.aload_n 0, 1) := by decide +kernel
theorem dX11_half_58 : decode cX11_half 58 = .ok (.getfield 66, 3) := by decide +kernel
theorem dX11_half_61 : decode cX11_half 61 = .ok (.iload_n 1, 1) := by decide +kernel
theorem dX11_half_62 : decode cX11_half 62 = .ok (.iload_n 2, 1) := by decide +kernel
theorem dX11_half_63 : decode cX11_half 63 = .ok (.iload_n 3, 1) := by decide +kernel
theorem dX11_half_64 : decode cX11_half 64 = .ok (.invokevirtual 293, 3) := by decide +kernel
theorem dX11_half_67 : decode cX11_half 67 = .ok (.ireturn, 1) := by decide +kernel
theorem dX11_mend_12 : decode cX11_mend 12 = .ok (.aload_n 0, 1) := by decide +kernel
theorem dX11_mend_13 : decode cX11_mend 13 = .ok (.getfield 66, 3) := by decide +kernel
theorem dX11_mend_16 : decode cX11_mend 16 = .ok (.aload_n 2, 1) := by decide +kernel
theorem dX11_mend_17 : decode cX11_mend 17 = .ok (.invokevirtual 297, 3) := by decide +kernel
theorem dX11_mend_20 : decode cX11_mend 20 = .ok (.ireturn, 1) := by decide +kernel
theorem dX11_trees_11 : decode cX11_trees 11 = .ok (.aload_n 0, 1) := by decide +kernel
theorem dX11_trees_12 : decode cX11_trees 12 = .ok (.getfield 26, 3) := by decide +kernel
theorem dX11_trees_15 : decode cX11_trees 15 = .ok (.iload_n 2, 1) := by decide +kernel
theorem dX11_trees_16 : decode cX11_trees 16 = .ok (.invokevirtual 137, 3) := by decide +kernel
theorem dX11_trees_19 : decode cX11_trees 19 = .ok (.ifCond .eq 8, 3) := by decide +kernel
theorem dX11_trees_22 : decode cX11_trees 22 = .ok (.iload_n 1, 1) := by decide +kernel
theorem dX11_trees_23 : decode cX11_trees 23 = .ok (.iload_n 2, 1) := by decide +kernel
theorem dX11_trees_24 : decode cX11_trees 24 = .ok (.if_icmp .ne 5, 3) := by decide +kernel
theorem dX11_trees_29 : decode cX11_trees 29 = .ok (.iload_n 3, 1) := by decide +kernel
theorem dX11_trees_30 : decode cX11_trees 30 = .ok (.ifCond .lt 8, 3) := by decide +kernel
theorem dX11_trees_33 : decode cX11_trees 33 = .ok (.iload_n 3, 1) := by decide +kernel
theorem dX11_trees_34 : decode cX11_trees 34 = .ok (.iconst 1, 1) := by decide +kernel
theorem dX11_trees_35 : decode cX11_trees 35 = .ok (.if_icmp .le 5, 3) := by decide +kernel
theorem dX11_trees_38 : decode cX11_trees 38 = .ok (.iconst (-1), 1) := by decide +kernel
theorem dX11_trees_39 : decode cX11_trees 39 = .ok (.ireturn, 1) := by decide +kernel
theorem dX11_trees_40 : decode cX11_trees 40 = .ok (.aload_n 0, 1) := by decide +kernel
theorem dX11_trees_41 : decode cX11_trees 41 = .ok (.getfield 66, 3) := by decide +kernel
theorem dX11_trees_44 : decode cX11_trees 44 = .ok (.iload_n 1, 1) := by decide +kernel
theorem dX11_trees_45 : decode cX11_trees 45 = .ok (.iload_n 2, 1) := by decide +kernel
theorem dX11_trees_46 : decode cX11_trees 46 = .ok (.invokevirtual 300, 3) := by decide +kernel
theorem dX11_trees_49 : decode cX11_trees 49 = .ok (.iload_n 3, 1) := by decide +kernel
theorem dX11_trees_50 : decode cX11_trees 50 = .ok (.ifCond .ne 13, 3) := by decide +kernel
theorem dX11_trees_53 : decode cX11_trees 53 = .ok (.aload_n 0, 1) := by decide +kernel
theorem dX11_trees_54 : decode cX11_trees 54 = .ok (.getfield 66, 3) := by decide +kernel
theorem dX11_trees_57 : decode cX11_trees 57 = .ok (.invokevirtual 303, 3) := by decide +kernel
theorem dX11_trees_60 : decode cX11_trees 60 = .ok (.goto 10, 3) := by decide +kernel
theorem dX11_trees_63 : decode cX11_trees 63 = .ok (.aload_n 0, 1) := by decide +kernel
theorem dX11_trees_64 : decode cX11_trees 64 = .ok (.getfield 66, 3) := by decide +kernel
theorem dX11_trees_67 : decode cX11_trees 67 = .ok (.invokevirtual 306, 3) := by decide +kernel
theorem dX11_trees_70 : decode cX11_trees 70 = .ok (.ireturn, 1) := by decide +kernel
theorem dX11_noon_12 : decode cX11_noon 12 = .ok (.iload_n 2, 1) := by decide +kernel
theorem dX11_noon_13 : decode cX11_noon 13 = .ok (.ifCond .lt 21, 3) := by decide +kernel
theorem dX11_noon_16 : decode cX11_noon 16 = .ok (.iload_n 2, 1) := by decide +kernel
theorem dX11_noon_17 : decode cX11_noon 17 = .ok (.sipush 9999, 3) := by decide +kernel
theorem dX11_noon_20 : decode cX11_noon 20 = .ok (.if_icmp .gt 14, 3) := by decide +kernel
theorem dX11_noon_23 : decode cX11_noon 23 = .ok (.iload_n 3, 1) := by decide +kernel
theorem dX11_noon_24 : decode cX11_noon 24 = .ok (.ifCond .lt 10, 3) := by decide +kernel
theorem dX11_noon_27 : decode cX11_noon 27 = .ok (.iload_n 3, 1) := by decide +kernel
theorem dX11_noon_28 : decode cX11_noon 28 = .ok (.sipush 9999, 3) := by decide +kernel
theorem dX11_noon_31 : decode cX11_noon 31 = .ok (.if_icmp .le 5, 3) := by decide +kernel
theorem dX11_noon_36 : decode cX11_noon 36 = .ok (.aload 4, 2) := by decide +kernel
theorem dX11_noon_38 : decode cX11_noon 38 = .ok (.getfield 196, 3) := by decide +kernel
theorem dX11_noon_41 : decode cX11_noon 41 = .ok (.invokestatic 246, 3) := by decide +kernel
theorem dX11_noon_44 : decode cX11_noon 44 = .ok (.istore 5, 2) := by decide +kernel
theorem dX11_noon_46 : decode cX11_noon 46 = .ok (.iconst 1, 1) := by decide +kernel
theorem dX11_noon_47 : decode cX11_noon 47 = .ok (.istore 6, 2) := by decide +kernel
theorem dX11_noon_49 : decode cX11_noon 49 = .ok (.iload 6, 2) := by decide +kernel
theorem dX11_noon_51 : decode cX11_noon 51 = .ok (.iload 5, 2) := by decide +kernel
theorem dX11_noon_53 : decode cX11_noon 53 = .ok (.if_icmp .gt 22, 3) := by decide +kernel
theorem dX11_noon_56 : decode cX11_noon 56 = .ok (.iload_n 2, 1) := by decide +kernel
theorem dX11_noon_57 : decode cX11_noon 57 = .ok (.iload 6, 2) := by decide +kernel
theorem dX11_noon_59 : decode cX11_noon 59 = .ok (.invokestatic 309, 3) := by decide +kernel
theorem dX11_noon_62 : decode cX11_noon 62 = .ok (.iload_n 3, 1) := by decide +kernel
theorem dX11_noon_63 : decode cX11_noon 63 = .ok (.if_icmp .gt 6, 3) := by decide +kernel
theorem dX11_noon_66 : decode cX11_noon 66 = .ok (.iload 6, 2) := by decide +kernel
theorem dX11_noon_68 : decode cX11_noon 68 = .ok (.ireturn, 1) := by decide +kernel
theorem dX11_noon_69 : decode cX11_noon 69 = .ok (.iinc 6 1, 3) := by decide +kernel
theorem dX11_noon_72 : decode cX11_noon 72 = .ok (.goto (-23), 3) := by decide +kernel
theorem dX11_noon_75 : decode cX11_noon 75 = .ok (.bipush (-2), 2) := by decide +kernel
theorem dX11_noon_77 : decode cX11_noon 77 = .ok (.ireturn, 1) := by decide +kernel
theorem dX11_lies_11 : decode cX11_lies 11 = .ok (.iload_n 2, 1) := by decide +kernel
theorem dX11_lies_12 : decode cX11_lies 12 = .ok (.ifCond .lt 14, 3) := by decide +kernel
theorem dX11_lies_15 : decode cX11_lies 15 = .ok (.iload_n 3, 1) := by decide +kernel
theorem dX11_lies_16 : decode cX11_lies 16 = .ok (.iconst 1, 1) := by decide +kernel
theorem dX11_lies_17 : decode cX11_lies 17 = .ok (.if_icmp .lt 9, 3) := by decide +kernel
theorem dX11_lies_20 : decode cX11_lies 20 = .ok (.iload_n 3, 1) := by decide +kernel
theorem dX11_lies_21 : decode cX11_lies 21 = .ok (.bipush 99, 2) := by decide +kernel
theorem dX11_lies_23 : decode cX11_lies 23 = .ok (.if_icmp .le 5, 3) := by decide +kernel
theorem dX11_lies_28 : decode cX11_lies 28 = .ok (.iload_n 2, 1) := by decide +kernel
theorem dX11_lies_29 : decode cX11_lies 29 = .ok (.iload_n 3, 1) := by decide +kernel
theorem dX11_lies_30 : decode cX11_lies 30 = .ok (.if_icmp .gt 14, 3) := by decide +kernel
theorem dX11_lies_33 : decode cX11_lies 33 = .ok (.iload 4, 2) := by decide +kernel
theorem dX11_lies_35 : decode cX11_lies 35 = .ok (.ifCond .lt 9, 3) := by decide +kernel
theorem dX11_lies_38 : decode cX11_lies 38 = .ok (.iload 4, 2) := by decide +kernel
theorem dX11_lies_40 : decode cX11_lies 40 = .ok (.iconst 1, 1) := by decide +kernel
theorem dX11_lies_41 : decode cX11_lies 41 = .ok (.if_icmp .le 5, 3) := by decide +kernel
theorem dX11_lies_44 : decode cX11_lies 44 = .ok (.iconst (-1), 1) := by decide +kernel
theorem dX11_lies_45 : decode cX11_lies 45 = .ok (.ireturn, 1) := by decide +kernel
theorem dX11_lies_46 : decode cX11_lies 46 = .ok (.aload_n 0, 1) := by decide +kernel
theorem dX11_lies_47 : decode cX11_lies 47 = .ok (.getfield 26, 3) := by decide +kernel
theorem dX11_lies_50 : decode cX11_lies 50 = .ok (.getfield 149, 3) := by decide +kernel
theorem dX11_lies_53 : decode cX11_lies 53 = .ok (.iload_n 1, 1) := by decide +kernel
theorem dX11_lies_54 : decode cX11_lies 54 = .ok (.iaload, 1) := by decide +kernel
theorem dX11_lies_55 : decode cX11_lies 55 = .ok (.istore 5, 2) := by decide +kernel
theorem dX11_lies_57 : decode cX11_lies 57 = .ok (.iconst 1, 1) := by decide +kernel
theorem dX11_lies_58 : decode cX11_lies 58 = .ok (.iload 5, 2) := by decide +kernel
theorem dX11_lies_60 : decode cX11_lies 60 = .ok (.iload_n 3, 1) := by decide +kernel
theorem dX11_lies_61 : decode cX11_lies 61 = .ok (.iload_n 2, 1) := by decide +kernel
theorem dX11_lies_62 : decode cX11_lies 62 = .ok (.isub, 1) := by decide +kernel
theorem dX11_lies_63 : decode cX11_lies 63 = .ok (.imul, 1) := by decide +kernel
theorem dX11_lies_64 : decode cX11_lies 64 = .ok (.iload_n 3, 1) := by decide +kernel
theorem dX11_lies_65 : decode cX11_lies 65 = .ok (.invokestatic 309, 3) := by decide +kernel
theorem dX11_lies_68 : decode cX11_lies 68 = .ok (.invokestatic 312, 3) := by decide +kernel
theorem dX11_lies_71 : decode cX11_lies 71 = .ok (.istore 6, 2) := by decide +kernel
theorem dX11_lies_73 : decode cX11_lies 73 = .ok (.iload 4, 2) := by decide +kernel
theorem dX11_lies_75 : decode cX11_lies 75 = .ok (.ifCond .ne 8, 3) := by decide +kernel
theorem dX11_lies_78 : decode cX11_lies 78 = .ok (.iload 6, 2) := by decide +kernel
theorem dX11_lies_80 : decode cX11_lies 80 = .ok (.goto 10, 3) := by decide +kernel
theorem dX11_lies_83 : decode cX11_lies 83 = .ok (.iconst 4, 1) := by decide +kernel
theorem dX11_lies_84 : decode cX11_lies 84 = .ok (.iload 5, 2) := by decide +kernel
theorem dX11_lies_86 : decode cX11_lies 86 = .ok (.iload 6, 2) := by decide +kernel
theorem dX11_lies_88 : decode cX11_lies 88 = .ok (.isub, 1) := by decide +kernel
theorem dX11_lies_89 : decode cX11_lies 89 = .ok (.imul, 1) := by decide +kernel
theorem dX11_lies_90 : decode cX11_lies 90 = .ok (.ireturn, 1) := by decide +kernel
theorem dX11_upward_0 : decode cX11_upward 0 = .ok (.iload_n 1, 1) := by decide +kernel
theorem dX11_upward_1 : decode cX11_upward 1 = .ok (.ifCond .le 13, 3) := by decide +kernel
theorem dX11_upward_4 : decode cX11_upward 4 = .ok (.iload_n 0, 1) := by decide +kernel
theorem dX11_upward_5 : decode cX11_upward 5 = .ok (.iload_n 1, 1) := by decide +kernel
theorem dX11_upward_6 : decode cX11_upward 6 = .ok (.iadd, 1) := by decide +kernel
theorem dX11_upward_7 : decode cX11_upward 7 = .ok (.iconst 1, 1) := by decide +kernel
theorem dX11_upward_8 : decode cX11_upward 8 = .ok (.isub, 1) := by decide +kernel
theorem dX11_upward_9 : decode cX11_upward 9 = .ok (.iload_n 1, 1) := by decide +kernel
theorem dX11_upward_10 : decode cX11_upward 10 = .ok (.idiv, 1) := by decide +kernel
theorem dX11_upward_11 : decode cX11_upward 11 = .ok (.goto 4, 3) := by decide +kernel
theorem dX11_upward_14 : decode cX11_upward 14 = .ok (.iconst 0, 1) := by decide +kernel
theorem dX11_upward_15 : decode cX11_upward 15 = .ok (.ireturn, 1) := by decide +kernel
theorem dX11_comes_11 : decode cX11_comes 11 = .ok (.aload_n 0, 1) := by decide +kernel
theorem dX11_comes_12 : decode cX11_comes 12 = .ok (.getfield 75, 3) := by decide +kernel
theorem dX11_comes_15 : decode cX11_comes 15 = .ok (.iload_n 1, 1) := by decide +kernel
theorem dX11_comes_16 : decode cX11_comes 16 = .ok (.invokevirtual 317, 3) := by decide +kernel
theorem dX11_comes_19 : decode cX11_comes 19 = .ok (.ifCond .eq 5, 3) := by decide +kernel
theorem dX11_comes_24 : decode cX11_comes 24 = .ok (.aload_n 0, 1) := by decide +kernel
theorem dX11_comes_25 : decode cX11_comes 25 = .ok (.getfield 75, 3) := by decide +kernel
theorem dX11_comes_28 : decode cX11_comes 28 = .ok (.getfield 320, 3) := by decide +kernel
theorem dX11_comes_31 : decode cX11_comes 31 = .ok (.iconst 5, 1) := by decide +kernel
theorem dX11_comes_32 : decode cX11_comes 32 = .ok (.if_icmp .lt 6, 3) := by decide +kernel
theorem dX11_comes_35 : decode cX11_comes 35 = .ok (.bipush (-3), 2) := by decide +kernel
theorem dX11_comes_37 : decode cX11_comes 37 = .ok (.ireturn, 1) := by decide +kernel
theorem dX11_comes_38 : decode cX11_comes 38 = .ok (.aload_n 0, 1) := by decide +kernel
theorem dX11_comes_39 : decode cX11_comes 39 = .ok (.getfield 75, 3) := by decide +kernel
theorem dX11_comes_42 : decode cX11_comes 42 = .ok (.getfield 323, 3) := by decide +kernel
theorem dX11_comes_45 : decode cX11_comes 45 = .ok (.aload_n 0, 1) := by decide +kernel
theorem dX11_comes_46 : decode cX11_comes 46 = .ok (.getfield 75, 3) := by decide +kernel
theorem dX11_comes_49 : decode cX11_comes 49 = .ok (.getfield 320, 3) := by decide +kernel
theorem dX11_comes_52 : decode cX11_comes 52 = .ok (.iload_n 1, 1) := by decide +kernel
theorem dX11_comes_53 : decode cX11_comes 53 = .ok (.iastore, 1) := by decide +kernel
theorem dX11_comes_54 : decode cX11_comes 54 = .ok (.aload_n 0, 1) := by decide +kernel
theorem dX11_comes_55 : decode cX11_comes 55 = .ok (.getfield 75, 3) := by decide +kernel
theorem dX11_comes_58 : decode cX11_comes 58 = .ok (.dup, 1) := by decide +kernel
theorem dX11_comes_59 : decode cX11_comes 59 = .ok (.getfield 320, 3) := by decide +kernel
theorem dX11_comes_62 : decode cX11_comes 62 = .ok (.iconst 1, 1) := by decide +kernel
theorem dX11_comes_63 : decode cX11_comes 63 = .ok (.iadd, 1) := by decide +kernel
theorem dX11_comes_64 : decode cX11_comes 64 = .ok (.putfield 320, 3) := by decide +kernel
theorem dX11_comes_67 : decode cX11_comes 67 = .ok (.aload_n 0, 1) := by decide +kernel
theorem dX11_comes_68 : decode cX11_comes 68 = .ok (.getfield 75, 3) := by decide +kernel
theorem dX11_comes_71 : decode cX11_comes 71 = .ok (.getfield 320, 3) := by decide +kernel
theorem dX11_comes_74 : decode cX11_comes 74 = .ok (.ireturn, 1) := by decide +kernel
theorem dX11_order_10 : decode cX11_order 10 = .ok (.aload_n 0, 1) := by decide +kernel
theorem dX11_order_11 : decode cX11_order 11 = .ok (.getfield 75, 3) := by decide +kernel
theorem dX11_order_14 : decode cX11_order 14 = .ok (.getfield 320, 3) := by decide +kernel
theorem dX11_order_17 : decode cX11_order 17 = .ok (.ifCond .ne 5, 3) := by decide +kernel
theorem dX11_order_22 : decode cX11_order 22 = .ok (.aload_n 0, 1) := by decide +kernel
theorem dX11_order_23 : decode cX11_order 23 = .ok (.getfield 75, 3) := by decide +kernel
theorem dX11_order_26 : decode cX11_order 26 = .ok (.aload_n 2, 1) := by decide +kernel
theorem dX11_order_27 : decode cX11_order 27 = .ok (.aload_n 0, 1) := by decide +kernel
theorem dX11_order_28 : decode cX11_order 28 = .ok (.getfield 57, 3) := by decide +kernel
theorem dX11_order_31 : decode cX11_order 31 = .ok (.invokevirtual 326, 3) := by decide +kernel
theorem dX11_order_34 : decode cX11_order 34 = .ok (.istore_n 3, 1) := by decide +kernel
theorem dX11_order_35 : decode cX11_order 35 = .ok (.iload_n 3, 1) := by decide +kernel
theorem dX11_order_36 : decode cX11_order 36 = .ok (.iconst (-1), 1) := by decide +kernel
theorem dX11_order_37 : decode cX11_order 37 = .ok (.if_icmp .ne 8, 3) := by decide +kernel
theorem dX11_order_40 : decode cX11_order 40 = .ok (.bipush (-2), 2) := by decide +kernel
theorem dX11_order_42 : decode cX11_order 42 = .ok (.goto 4, 3) := by decide +kernel
theorem dX11_order_45 : decode cX11_order 45 = .ok (.iload_n 3, 1) := by decide +kernel
theorem dX11_order_46 : decode cX11_order 46 = .ok (.ireturn, 1) := by decide +kernel
theorem dX11_ordered_15 : decode cX11_ordered 15 = .ok (.aload_n 0, 1) := by decide +kernel
theorem dX11_ordered_16 : decode cX11_ordered 16 = .ok (.getfield 75, 3) := by decide +kernel
theorem dX11_ordered_19 : decode cX11_ordered 19 = .ok (.getfield 333, 3) := by decide +kernel
theorem dX11_ordered_22 : decode cX11_ordered 22 = .ok (.iload_n 1, 1) := by decide +kernel
theorem dX11_ordered_23 : decode cX11_ordered 23 = .ok (.iaload, 1) := by decide +kernel
theorem dX11_ordered_24 : decode cX11_ordered 24 = .ok (.goto 4, 3) := by decide +kernel
theorem dX11_turning_12 : decode cX11_turning 12 = .ok (.bipush (-3), 2) := by decide +kernel
theorem dX11_turning_14 : decode cX11_turning 14 = .ok (.ireturn, 1) := by decide +kernel
theorem dX11_harm_10 : decode cX11_harm 10 = .ok (.aload_n 0, 1) := by decide +kernel
theorem dX11_harm_11 : decode cX11_harm 11 = .ok (.getfield 84, 3) := by decide +kernel
theorem dX11_harm_14 : decode cX11_harm 14 = .ok (.getfield 336, 3) := by decide +kernel
theorem dX11_harm_17 : decode cX11_harm 17 = .ok (.ifCond .ne 5, 3) := by decide +kernel
theorem dX11_harm_22 : decode cX11_harm 22 = .ok (.aload_n 0, 1) := by decide +kernel
theorem dX11_harm_23 : decode cX11_harm 23 = .ok (.getfield 84, 3) := by decide +kernel
theorem dX11_harm_26 : decode cX11_harm 26 = .ok (.aload_n 2, 1) := by decide +kernel
theorem dX11_harm_27 : decode cX11_harm 27 = .ok (.aload_n 0, 1) := by decide +kernel
theorem dX11_harm_28 : decode cX11_harm 28 = .ok (.getfield 57, 3) := by decide +kernel
theorem dX11_harm_31 : decode cX11_harm 31 = .ok (.invokevirtual 338, 3) := by decide +kernel
theorem dX11_harm_34 : decode cX11_harm 34 = .ok (.ireturn, 1) := by decide +kernel
theorem dX11_harmed_15 : decode cX11_harmed 15 = .ok (.aload_n 0, 1) := by decide +kernel
theorem dX11_harmed_16 : decode cX11_harmed 16 = .ok (.getfield 84, 3) := by decide +kernel
theorem dX11_harmed_19 : decode cX11_harmed 19 = .ok (.getfield 341, 3) := by decide +kernel
theorem dX11_act_21 : decode cX11_act 21 = .ok (.aload_n 0, 1) := by decide +kernel
theorem dX11_act_22 : decode cX11_act 22 = .ok (.getfield 91, 3) := by decide +kernel
theorem dX11_act_25 : decode cX11_act 25 = .ok (.iload_n 1, 1) := by decide +kernel
theorem dX11_act_26 : decode cX11_act 26 = .ok (.aload_n 0, 1) := by decide +kernel
theorem dX11_act_27 : decode cX11_act 27 = .ok (.getfield 26, 3) := by decide +kernel
theorem dX11_act_30 : decode cX11_act 30 = .ok (.getfield 149, 3) := by decide +kernel
theorem dX11_act_33 : decode cX11_act 33 = .ok (.iload_n 1, 1) := by decide +kernel
theorem dX11_act_34 : decode cX11_act 34 = .ok (.iaload, 1) := by decide +kernel
theorem dX11_act_35 : decode cX11_act 35 = .ok (.aload_n 0, 1) := by decide +kernel
theorem dX11_act_36 : decode cX11_act 36 = .ok (.getfield 26, 3) := by decide +kernel
theorem dX11_act_39 : decode cX11_act 39 = .ok (.getfield 141, 3) := by decide +kernel
theorem dX11_act_42 : decode cX11_act 42 = .ok (.iload_n 1, 1) := by decide +kernel
theorem dX11_act_43 : decode cX11_act 43 = .ok (.iaload, 1) := by decide +kernel
theorem dX11_act_44 : decode cX11_act 44 = .ok (.iload_n 2, 1) := by decide +kernel
theorem dX11_act_45 : decode cX11_act 45 = .ok (.iload_n 3, 1) := by decide +kernel
theorem dX11_act_46 : decode cX11_act 46 = .ok (.invokevirtual 347, 3) := by decide +kernel
theorem dX11_act_49 : decode cX11_act 49 = .ok (.ireturn, 1) := by decide +kernel
theorem dX11_trace_15 : decode cX11_trace 15 = .ok (.iload_n 1, 1) := by decide +kernel
theorem dX11_trace_16 : decode cX11_trace 16 = .ok (.bipush 24, 2) := by decide +kernel
theorem dX11_trace_18 : decode cX11_trace 18 = .ok (.if_icmp .ge 15, 3) := by decide +kernel
theorem dX11_trace_21 : decode cX11_trace 21 = .ok (.aload_n 0, 1) := by decide +kernel
theorem dX11_trace_22 : decode cX11_trace 22 = .ok (.getfield 91, 3) := by decide +kernel
theorem dX11_trace_25 : decode cX11_trace 25 = .ok (.getfield 351, 3) := by decide +kernel
theorem dX11_trace_28 : decode cX11_trace 28 = .ok (.iload_n 1, 1) := by decide +kernel
theorem dX11_trace_29 : decode cX11_trace 29 = .ok (.iaload, 1) := by decide +kernel
theorem dX11_trace_30 : decode cX11_trace 30 = .ok (.goto 4, 3) := by decide +kernel
theorem dX11_put_28 : decode cX11_put 28 = .ok (.aload_n 0, 1) := by decide +kernel
theorem dX11_put_29 : decode cX11_put 29 = .ok (.getfield 98, 3) := by decide +kernel
theorem dX11_put_32 : decode cX11_put 32 = .ok (.getfield 367, 3) := by decide +kernel
theorem dX11_put_35 : decode cX11_put 35 = .ok (.iload_n 1, 1) := by decide +kernel
theorem dX11_put_36 : decode cX11_put 36 = .ok (.aaload, 1) := by decide +kernel
theorem dX11_put_37 : decode cX11_put 37 = .ok (.iload_n 2, 1) := by decide +kernel
theorem dX11_put_38 : decode cX11_put 38 = .ok (.aload_n 0, 1) := by decide +kernel
theorem dX11_put_39 : decode cX11_put 39 = .ok (.getfield 98, 3) := by decide +kernel
theorem dX11_put_42 : decode cX11_put 42 = .ok (.getfield 371, 3) := by decide +kernel
theorem dX11_put_45 : decode cX11_put 45 = .ok (.iload_n 1, 1) := by decide +kernel
theorem dX11_put_46 : decode cX11_put 46 = .ok (.iaload, 1) := by decide +kernel
theorem dX11_put_47 : decode cX11_put 47 = .ok (.lload_n 3, 1) := by decide +kernel
theorem dX11_put_48 : decode cX11_put 48 = .ok (.invokestatic 374, 3) := by decide +kernel
theorem dX11_put_51 : decode cX11_put 51 = .ok (.lastore, 1) := by decide +kernel
theorem dX11_put_52 : decode cX11_put 52 = .ok (.iconst 1, 1) := by decide +kernel
theorem dX11_put_53 : decode cX11_put 53 = .ok (.ireturn, 1) := by decide +kernel
theorem dX11_element_23 : decode cX11_element 23 = .ok (.aload_n 0, 1) := by decide +kernel
theorem dX11_element_24 : decode cX11_element 24 = .ok (.getfield 98, 3) := by decide +kernel
theorem dX11_element_27 : decode cX11_element 27 = .ok (.getfield 367, 3) := by decide +kernel
theorem dX11_element_30 : decode cX11_element 30 = .ok (.iload_n 1, 1) := by decide +kernel
theorem dX11_element_31 : decode cX11_element 31 = .ok (.aaload, 1) := by decide +kernel
theorem dX11_element_32 : decode cX11_element 32 = .ok (.iload_n 2, 1) := by decide +kernel
theorem dX11_element_33 : decode cX11_element 33 = .ok (.laload, 1) := by decide +kernel
theorem dX11_element_34 : decode cX11_element 34 = .ok (.lreturn, 1) := by decide +kernel
theorem dX11_shift_27 : decode cX11_shift 27 = .ok (.aload_n 0, 1) := by decide +kernel
theorem dX11_shift_28 : decode cX11_shift 28 = .ok (.getfield 98, 3) := by decide +kernel
theorem dX11_shift_31 : decode cX11_shift 31 = .ok (.iload_n 3, 1) := by decide +kernel
theorem dX11_shift_32 : decode cX11_shift 32 = .ok (.invokevirtual 382, 3) := by decide +kernel
theorem dX11_shift_35 : decode cX11_shift 35 = .ok (.ifCond .eq 6, 3) := by decide +kernel
theorem dX11_shift_41 : decode cX11_shift 41 = .ok (.aload_n 0, 1) := by decide +kernel
theorem dX11_shift_42 : decode cX11_shift 42 = .ok (.getfield 98, 3) := by decide +kernel
theorem dX11_shift_45 : decode cX11_shift 45 = .ok (.iload_n 1, 1) := by decide +kernel
theorem dX11_shift_46 : decode cX11_shift 46 = .ok (.invokevirtual 385, 3) := by decide +kernel
theorem dX11_shift_49 : decode cX11_shift 49 = .ok (.ifCond .eq 35, 3) := by decide +kernel
theorem dX11_shift_52 : decode cX11_shift 52 = .ok (.aload_n 0, 1) := by decide +kernel
theorem dX11_shift_53 : decode cX11_shift 53 = .ok (.getfield 98, 3) := by decide +kernel
theorem dX11_shift_56 : decode cX11_shift 56 = .ok (.iload_n 3, 1) := by decide +kernel
theorem dX11_shift_57 : decode cX11_shift 57 = .ok (.invokevirtual 385, 3) := by decide +kernel
theorem dX11_shift_60 : decode cX11_shift 60 = .ok (.ifCond .eq 24, 3) := by decide +kernel
theorem dX11_shift_63 : decode cX11_shift 63 = .ok (.aload_n 0, 1) := by decide +kernel
theorem dX11_shift_64 : decode cX11_shift 64 = .ok (.getfield 98, 3) := by decide +kernel
theorem dX11_shift_67 : decode cX11_shift 67 = .ok (.getfield 371, 3) := by decide +kernel
theorem dX11_shift_70 : decode cX11_shift 70 = .ok (.iload_n 1, 1) := by decide +kernel
theorem dX11_shift_71 : decode cX11_shift 71 = .ok (.iaload, 1) := by decide +kernel
theorem dX11_shift_72 : decode cX11_shift 72 = .ok (.aload_n 0, 1) := by decide +kernel
theorem dX11_shift_73 : decode cX11_shift 73 = .ok (.getfield 98, 3) := by decide +kernel
theorem dX11_shift_76 : decode cX11_shift 76 = .ok (.getfield 371, 3) := by decide +kernel
theorem dX11_shift_79 : decode cX11_shift 79 = .ok (.iload_n 3, 1) := by decide +kernel
theorem dX11_shift_80 : decode cX11_shift 80 = .ok (.iaload, 1) := by decide +kernel
theorem dX11_shift_81 : decode cX11_shift 81 = .ok (.if_icmp .eq 6, 3) := by decide +kernel
theorem dX11_shift_84 : decode cX11_shift 84 = .ok (.bipush (-12), 2) := by decide +kernel
theorem dX11_shift_86 : decode cX11_shift 86 = .ok (.ireturn, 1) := by decide +kernel
theorem dX11_shift_87 : decode cX11_shift 87 = .ok (.aload_n 0, 1) := by decide +kernel
theorem dX11_shift_88 : decode cX11_shift 88 = .ok (.getfield 98, 3) := by decide +kernel
theorem dX11_shift_91 : decode cX11_shift 91 = .ok (.iload_n 1, 1) := by decide +kernel
theorem dX11_shift_92 : decode cX11_shift 92 = .ok (.iload_n 2, 1) := by decide +kernel
theorem dX11_shift_93 : decode cX11_shift 93 = .ok (.iload 5, 2) := by decide +kernel
theorem dX11_shift_95 : decode cX11_shift 95 = .ok (.invokevirtual 388, 3) := by decide +kernel
theorem dX11_shift_98 : decode cX11_shift 98 = .ok (.ifCond .eq 18, 3) := by decide +kernel
theorem dX11_shift_101 : decode cX11_shift 101 = .ok (.aload_n 0, 1) := by decide +kernel
theorem dX11_shift_102 : decode cX11_shift 102 = .ok (.getfield 98, 3) := by decide +kernel
theorem dX11_shift_105 : decode cX11_shift 105 = .ok (.iload_n 3, 1) := by decide +kernel
theorem dX11_shift_106 : decode cX11_shift 106 = .ok (.iload 4, 2) := by decide +kernel
theorem dX11_shift_108 : decode cX11_shift 108 = .ok (.iload 5, 2) := by decide +kernel
theorem dX11_shift_110 : decode cX11_shift 110 = .ok (.invokevirtual 388, 3) := by decide +kernel
theorem dX11_shift_113 : decode cX11_shift 113 = .ok (.ifCond .ne 6, 3) := by decide +kernel
theorem dX11_shift_116 : decode cX11_shift 116 = .ok (.bipush (-13), 2) := by decide +kernel
theorem dX11_shift_118 : decode cX11_shift 118 = .ok (.ireturn, 1) := by decide +kernel
theorem dX11_shift_119 : decode cX11_shift 119 = .ok (.aload_n 0, 1) := by decide +kernel
theorem dX11_shift_120 : decode cX11_shift 120 = .ok (.getfield 98, 3) := by decide +kernel
theorem dX11_shift_123 : decode cX11_shift 123 = .ok (.getfield 367, 3) := by decide +kernel
theorem dX11_shift_126 : decode cX11_shift 126 = .ok (.iload_n 1, 1) := by decide +kernel
theorem dX11_shift_127 : decode cX11_shift 127 = .ok (.aaload, 1) := by decide +kernel
theorem dX11_shift_128 : decode cX11_shift 128 = .ok (.iload_n 2, 1) := by decide +kernel
theorem dX11_shift_129 : decode cX11_shift 129 = .ok (.aload_n 0, 1) := by decide +kernel
theorem dX11_shift_130 : decode cX11_shift 130 = .ok (.getfield 98, 3) := by decide +kernel
theorem dX11_shift_133 : decode cX11_shift 133 = .ok (.getfield 367, 3) := by decide +kernel
theorem dX11_shift_136 : decode cX11_shift 136 = .ok (.iload_n 3, 1) := by decide +kernel
theorem dX11_shift_137 : decode cX11_shift 137 = .ok (.aaload, 1) := by decide +kernel
theorem dX11_shift_138 : decode cX11_shift 138 = .ok (.iload 4, 2) := by decide +kernel
theorem dX11_shift_140 : decode cX11_shift 140 = .ok (.iload 5, 2) := by decide +kernel
theorem dX11_shift_142 : decode cX11_shift 142 = .ok (.invokestatic 392, 3) := by decide +kernel
theorem dX11_shift_145 : decode cX11_shift 145 = .ok (.iload 5, 2) := by decide +kernel
theorem dX11_shift_147 : decode cX11_shift 147 = .ok (.ireturn, 1) := by decide +kernel
theorem dX11_taken_30 : decode cX11_taken 30 = .ok (.aload_n 0, 1) := by decide +kernel
theorem dX11_taken_31 : decode cX11_taken 31 = .ok (.getfield 98, 3) := by decide +kernel
theorem dX11_taken_34 : decode cX11_taken 34 = .ok (.getfield 398, 3) := by decide +kernel
theorem dX11_taken_37 : decode cX11_taken 37 = .ok (.iload_n 1, 1) := by decide +kernel
theorem dX11_taken_38 : decode cX11_taken 38 = .ok (.iaload, 1) := by decide +kernel
theorem dX11_taken_39 : decode cX11_taken 39 = .ok (.istore_n 3, 1) := by decide +kernel
theorem dX11_taken_40 : decode cX11_taken 40 = .ok (.aload_n 0, 1) := by decide +kernel
theorem dX11_taken_41 : decode cX11_taken 41 = .ok (.getfield 26, 3) := by decide +kernel
theorem dX11_taken_44 : decode cX11_taken 44 = .ok (.iload_n 3, 1) := by decide +kernel
theorem dX11_taken_45 : decode cX11_taken 45 = .ok (.invokevirtual 137, 3) := by decide +kernel
theorem dX11_taken_48 : decode cX11_taken 48 = .ok (.ifCond .ne 6, 3) := by decide +kernel
theorem dX11_taken_51 : decode cX11_taken 51 = .ok (.bipush (-12), 2) := by decide +kernel
theorem dX11_taken_53 : decode cX11_taken 53 = .ok (.ireturn, 1) := by decide +kernel
theorem dX11_taken_54 : decode cX11_taken 54 = .ok (.aload_n 0, 1) := by decide +kernel
theorem dX11_taken_55 : decode cX11_taken 55 = .ok (.getfield 26, 3) := by decide +kernel
theorem dX11_taken_58 : decode cX11_taken 58 = .ok (.getfield 141, 3) := by decide +kernel
theorem dX11_taken_61 : decode cX11_taken 61 = .ok (.iload_n 3, 1) := by decide +kernel
theorem dX11_taken_62 : decode cX11_taken 62 = .ok (.iaload, 1) := by decide +kernel
theorem dX11_taken_63 : decode cX11_taken 63 = .ok (.istore 4, 2) := by decide +kernel
theorem dX11_taken_65 : decode cX11_taken 65 = .ok (.iload 4, 2) := by decide +kernel
theorem dX11_taken_67 : decode cX11_taken 67 = .ok (.iload_n 2, 1) := by decide +kernel
theorem dX11_taken_68 : decode cX11_taken 68 = .ok (.invokestatic 401, 3) := by decide +kernel
theorem dX11_taken_71 : decode cX11_taken 71 = .ok (.ifCond .eq 8, 3) := by decide +kernel
theorem dX11_taken_74 : decode cX11_taken 74 = .ok (.iload 4, 2) := by decide +kernel
theorem dX11_taken_76 : decode cX11_taken 76 = .ok (.goto 5, 3) := by decide +kernel
theorem dX11_taken_79 : decode cX11_taken 79 = .ok (.bipush (-12), 2) := by decide +kernel
theorem dX11_taken_81 : decode cX11_taken 81 = .ok (.ireturn, 1) := by decide +kernel
theorem dX11_names_33 : decode cX11_names 33 = .ok (.aload_n 0, 1) := by decide +kernel
theorem dX11_names_34 : decode cX11_names 34 = .ok (.getfield 98, 3) := by decide +kernel
theorem dX11_names_37 : decode cX11_names 37 = .ok (.iload_n 1, 1) := by decide +kernel
theorem dX11_names_38 : decode cX11_names 38 = .ok (.invokevirtual 385, 3) := by decide +kernel
theorem dX11_names_41 : decode cX11_names 41 = .ok (.ifCond .eq 15, 3) := by decide +kernel
theorem dX11_names_44 : decode cX11_names 44 = .ok (.aload_n 0, 1) := by decide +kernel
theorem dX11_names_45 : decode cX11_names 45 = .ok (.getfield 98, 3) := by decide +kernel
theorem dX11_names_48 : decode cX11_names 48 = .ok (.getfield 371, 3) := by decide +kernel
theorem dX11_names_51 : decode cX11_names 51 = .ok (.iload_n 1, 1) := by decide +kernel
theorem dX11_names_52 : decode cX11_names 52 = .ok (.iaload, 1) := by decide +kernel
theorem dX11_names_53 : decode cX11_names 53 = .ok (.ifCond .eq 6, 3) := by decide +kernel
theorem dX11_names_56 : decode cX11_names 56 = .ok (.bipush (-12), 2) := by decide +kernel
theorem dX11_names_58 : decode cX11_names 58 = .ok (.ireturn, 1) := by decide +kernel
theorem dX11_names_59 : decode cX11_names 59 = .ok (.aload_n 0, 1) := by decide +kernel
theorem dX11_names_60 : decode cX11_names 60 = .ok (.getfield 19, 3) := by decide +kernel
theorem dX11_names_63 : decode cX11_names 63 = .ok (.aload_n 0, 1) := by decide +kernel
theorem dX11_names_64 : decode cX11_names 64 = .ok (.getfield 98, 3) := by decide +kernel
theorem dX11_names_67 : decode cX11_names 67 = .ok (.getfield 367, 3) := by decide +kernel
theorem dX11_names_70 : decode cX11_names 70 = .ok (.iload_n 1, 1) := by decide +kernel
theorem dX11_names_71 : decode cX11_names 71 = .ok (.aaload, 1) := by decide +kernel
theorem dX11_names_72 : decode cX11_names 72 = .ok (.aload_n 0, 1) := by decide +kernel
theorem dX11_names_73 : decode cX11_names 73 = .ok (.getfield 98, 3) := by decide +kernel
theorem dX11_names_76 : decode cX11_names 76 = .ok (.getfield 405, 3) := by decide +kernel
theorem dX11_names_79 : decode cX11_names 79 = .ok (.iload_n 1, 1) := by decide +kernel
theorem dX11_names_80 : decode cX11_names 80 = .ok (.iaload, 1) := by decide +kernel
theorem dX11_names_81 : decode cX11_names 81 = .ok (.iload_n 2, 1) := by decide +kernel
theorem dX11_names_82 : decode cX11_names 82 = .ok (.iload_n 3, 1) := by decide +kernel
theorem dX11_names_83 : decode cX11_names 83 = .ok (.invokevirtual 407, 3) := by decide +kernel
theorem dX11_names_86 : decode cX11_names 86 = .ok (.ireturn, 1) := by decide +kernel
theorem dX11_isUnder_0 : decode cX11_isUnder 0 = .ok (.iload_n 0, 1) := by decide +kernel
theorem dX11_isUnder_1 : decode cX11_isUnder 1 = .ok (.istore_n 2, 1) := by decide +kernel
theorem dX11_isUnder_2 : decode cX11_isUnder 2 = .ok (.iconst 0, 1) := by decide +kernel
theorem dX11_isUnder_3 : decode cX11_isUnder 3 = .ok (.istore_n 3, 1) := by decide +kernel
theorem dX11_isUnder_4 : decode cX11_isUnder 4 = .ok (.iload_n 3, 1) := by decide +kernel
theorem dX11_isUnder_5 : decode cX11_isUnder 5 = .ok (.getstatic 420, 3) := by decide +kernel
theorem dX11_isUnder_8 : decode cX11_isUnder 8 = .ok (.arraylength, 1) := by decide +kernel
theorem dX11_isUnder_9 : decode cX11_isUnder 9 = .ok (.if_icmp .ge 34, 3) := by decide +kernel
theorem dX11_isUnder_12 : decode cX11_isUnder 12 = .ok (.iload_n 2, 1) := by decide +kernel
theorem dX11_isUnder_13 : decode cX11_isUnder 13 = .ok (.ifCond .lt 30, 3) := by decide +kernel
theorem dX11_isUnder_16 : decode cX11_isUnder 16 = .ok (.iload_n 2, 1) := by decide +kernel
theorem dX11_isUnder_17 : decode cX11_isUnder 17 = .ok (.getstatic 420, 3) := by decide +kernel
theorem dX11_isUnder_20 : decode cX11_isUnder 20 = .ok (.arraylength, 1) := by decide +kernel
theorem dX11_isUnder_21 : decode cX11_isUnder 21 = .ok (.if_icmp .ge 22, 3) := by decide +kernel
theorem dX11_isUnder_24 : decode cX11_isUnder 24 = .ok (.iload_n 2, 1) := by decide +kernel
theorem dX11_isUnder_25 : decode cX11_isUnder 25 = .ok (.iload_n 1, 1) := by decide +kernel
theorem dX11_isUnder_26 : decode cX11_isUnder 26 = .ok (.if_icmp .ne 5, 3) := by decide +kernel
theorem dX11_isUnder_29 : decode cX11_isUnder 29 = .ok (.iconst 1, 1) := by decide +kernel
theorem dX11_isUnder_30 : decode cX11_isUnder 30 = .ok (.ireturn, 1) := by decide +kernel
theorem dX11_isUnder_31 : decode cX11_isUnder 31 = .ok (.getstatic 420, 3) := by decide +kernel
theorem dX11_isUnder_34 : decode cX11_isUnder 34 = .ok (.iload_n 2, 1) := by decide +kernel
theorem dX11_isUnder_35 : decode cX11_isUnder 35 = .ok (.iaload, 1) := by decide +kernel
theorem dX11_isUnder_36 : decode cX11_isUnder 36 = .ok (.istore_n 2, 1) := by decide +kernel
theorem dX11_isUnder_37 : decode cX11_isUnder 37 = .ok (.iinc 3 1, 3) := by decide +kernel
theorem dX11_isUnder_40 : decode cX11_isUnder 40 = .ok (.goto (-36), 3) := by decide +kernel
theorem dX11_isUnder_43 : decode cX11_isUnder 43 = .ok (.iconst 0, 1) := by decide +kernel
theorem dX11_isUnder_44 : decode cX11_isUnder 44 = .ok (.ireturn, 1) := by decide +kernel
theorem dX11_strewn_0 : decode cX11_strewn 0 = .ok (.iload_n 0, 1) := by decide +kernel
theorem dX11_strewn_1 : decode cX11_strewn 1 = .ok (.ldc_w 423, 3) := by decide +kernel
theorem dX11_strewn_4 : decode cX11_strewn 4 = .ok (.imul, 1) := by decide +kernel
theorem dX11_strewn_5 : decode cX11_strewn 5 = .ok (.sipush 12345, 3) := by decide +kernel
theorem dX11_strewn_8 : decode cX11_strewn 8 = .ok (.iadd, 1) := by decide +kernel
theorem dX11_strewn_9 : decode cX11_strewn 9 = .ok (.bipush 8, 2) := by decide +kernel
theorem dX11_strewn_11 : decode cX11_strewn 11 = .ok (.iushr, 1) := by decide +kernel
theorem dX11_strewn_12 : decode cX11_strewn 12 = .ok (.sipush 1000, 3) := by decide +kernel
theorem dX11_strewn_15 : decode cX11_strewn 15 = .ok (.irem, 1) := by decide +kernel
theorem dX11_strewn_16 : decode cX11_strewn 16 = .ok (.ireturn, 1) := by decide +kernel
theorem dX11_placeBehind_0 : decode cX11_placeBehind 0 = .ok (.iload_n 0, 1) := by decide +kernel
theorem dX11_placeBehind_1 : decode cX11_placeBehind 1 = .ok (.iconst 1, 1) := by decide +kernel
theorem dX11_placeBehind_2 : decode cX11_placeBehind 2 = .ok (.iadd, 1) := by decide +kernel
theorem dX11_placeBehind_3 : decode cX11_placeBehind 3 = .ok (.sipush 1000, 3) := by decide +kernel
theorem dX11_placeBehind_6 : decode cX11_placeBehind 6 = .ok (.if_icmp .ge 9, 3) := by decide +kernel
theorem dX11_placeBehind_9 : decode cX11_placeBehind 9 = .ok (.iload_n 0, 1) := by decide +kernel
theorem dX11_placeBehind_10 : decode cX11_placeBehind 10 = .ok (.iconst 1, 1) := by decide +kernel
theorem dX11_placeBehind_11 : decode cX11_placeBehind 11 = .ok (.iadd, 1) := by decide +kernel
theorem dX11_placeBehind_12 : decode cX11_placeBehind 12 = .ok (.goto 4, 3) := by decide +kernel
theorem dX11_placeBehind_15 : decode cX11_placeBehind 15 = .ok (.iconst 0, 1) := by decide +kernel
theorem dX11_placeBehind_16 : decode cX11_placeBehind 16 = .ok (.ireturn, 1) := by decide +kernel
theorem dX12_feed_22 : decode cX12_feed 22 = .ok (.bipush (-3), 2) := by decide +kernel
theorem dX12_feed_24 : decode cX12_feed 24 = .ok (.ireturn, 1) := by decide +kernel
theorem dX12_found_0 : decode cX12_found 0 = .ok (.iconst 0, 1) := by decide +kernel
theorem dX12_found_1 : decode cX12_found 1 = .ok (.istore_n 2, 1) := by decide +kernel
