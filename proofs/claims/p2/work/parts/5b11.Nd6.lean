theorem dX12_knows_40 : decode cX12_knows 40 = .ok (.ireturn, 1) := by decide +kernel
theorem dX12_isAwake_0 : decode cX12_isAwake 0 = .ok (.aload_n 0, 1) := by decide +kernel
theorem dX12_isAwake_1 : decode cX12_isAwake 1 = .ok (.getfield 22, 3) := by decide +kernel
theorem dX12_isAwake_4 : decode cX12_isAwake 4 = .ok (.iload_n 1, 1) := by decide +kernel
theorem dX12_isAwake_5 : decode cX12_isAwake 5 = .ok (.iaload, 1) := by decide +kernel
theorem dX12_isAwake_6 : decode cX12_isAwake 6 = .ok (.iconst 4, 1) := by decide +kernel
theorem dX12_isAwake_7 : decode cX12_isAwake 7 = .ok (.if_icmp .eq 16, 3) := by decide +kernel
theorem dX12_isAwake_10 : decode cX12_isAwake 10 = .ok (.aload_n 0, 1) := by decide +kernel
theorem dX12_isAwake_11 : decode cX12_isAwake 11 = .ok (.getfield 28, 3) := by decide +kernel
theorem dX12_isAwake_14 : decode cX12_isAwake 14 = .ok (.iload_n 1, 1) := by decide +kernel
theorem dX12_isAwake_15 : decode cX12_isAwake 15 = .ok (.baload, 1) := by decide +kernel
theorem dX12_isAwake_16 : decode cX12_isAwake 16 = .ok (.ifCond .ne 7, 3) := by decide +kernel
theorem dX12_isAwake_19 : decode cX12_isAwake 19 = .ok (.iconst 1, 1) := by decide +kernel
theorem dX12_isAwake_20 : decode cX12_isAwake 20 = .ok (.goto 4, 3) := by decide +kernel
theorem dX12_isAwake_23 : decode cX12_isAwake 23 = .ok (.iconst 0, 1) := by decide +kernel
theorem dX12_isAwake_24 : decode cX12_isAwake 24 = .ok (.ireturn, 1) := by decide +kernel
theorem dX12_hasRoom_0 : decode cX12_hasRoom 0 = .ok (.aload_n 0, 1) := by decide +kernel
theorem dX12_hasRoom_1 : decode cX12_hasRoom 1 = .ok (.getfield 22, 3) := by decide +kernel
theorem dX12_hasRoom_4 : decode cX12_hasRoom 4 = .ok (.iload_n 1, 1) := by decide +kernel
theorem dX12_hasRoom_5 : decode cX12_hasRoom 5 = .ok (.iaload, 1) := by decide +kernel
theorem dX12_hasRoom_6 : decode cX12_hasRoom 6 = .ok (.bipush 6, 2) := by decide +kernel
theorem dX12_hasRoom_8 : decode cX12_hasRoom 8 = .ok (.if_icmp .ne 28, 3) := by decide +kernel
theorem dX12_hasRoom_11 : decode cX12_hasRoom 11 = .ok (.aload_n 0, 1) := by decide +kernel
theorem dX12_hasRoom_12 : decode cX12_hasRoom 12 = .ok (.getfield 68, 3) := by decide +kernel
theorem dX12_hasRoom_15 : decode cX12_hasRoom 15 = .ok (.bipush 40, 2) := by decide +kernel
theorem dX12_hasRoom_17 : decode cX12_hasRoom 17 = .ok (.iload_n 1, 1) := by decide +kernel
theorem dX12_hasRoom_18 : decode cX12_hasRoom 18 = .ok (.imul, 1) := by decide +kernel
theorem dX12_hasRoom_19 : decode cX12_hasRoom 19 = .ok (.iload_n 2, 1) := by decide +kernel
theorem dX12_hasRoom_20 : decode cX12_hasRoom 20 = .ok (.iadd, 1) := by decide +kernel
theorem dX12_hasRoom_21 : decode cX12_hasRoom 21 = .ok (.iaload, 1) := by decide +kernel
theorem dX12_hasRoom_22 : decode cX12_hasRoom 22 = .ok (.ifCond .gt 14, 3) := by decide +kernel
theorem dX12_hasRoom_25 : decode cX12_hasRoom 25 = .ok (.aload_n 0, 1) := by decide +kernel
theorem dX12_hasRoom_26 : decode cX12_hasRoom 26 = .ok (.iload_n 1, 1) := by decide +kernel
theorem dX12_hasRoom_27 : decode cX12_hasRoom 27 = .ok (.iconst 1, 1) := by decide +kernel
theorem dX12_hasRoom_28 : decode cX12_hasRoom 28 = .ok (.invokevirtual 173, 3) := by decide +kernel
theorem dX12_hasRoom_31 : decode cX12_hasRoom 31 = .ok (.bipush 8, 2) := by decide +kernel
theorem dX12_hasRoom_33 : decode cX12_hasRoom 33 = .ok (.if_icmp .ge 7, 3) := by decide +kernel
theorem dX12_hasRoom_36 : decode cX12_hasRoom 36 = .ok (.iconst 1, 1) := by decide +kernel
theorem dX12_hasRoom_37 : decode cX12_hasRoom 37 = .ok (.goto 4, 3) := by decide +kernel
theorem dX12_hasRoom_40 : decode cX12_hasRoom 40 = .ok (.iconst 0, 1) := by decide +kernel
theorem dX12_hasRoom_41 : decode cX12_hasRoom 41 = .ok (.ireturn, 1) := by decide +kernel
theorem dX12_keeps_0 : decode cX12_keeps 0 = .ok (.iconst 0, 1) := by decide +kernel
theorem dX12_keeps_1 : decode cX12_keeps 1 = .ok (.istore 5, 2) := by decide +kernel
theorem dX12_keeps_3 : decode cX12_keeps 3 = .ok (.iload 5, 2) := by decide +kernel
theorem dX12_keeps_5 : decode cX12_keeps 5 = .ok (.aload_n 0, 1) := by decide +kernel
theorem dX12_keeps_6 : decode cX12_keeps 6 = .ok (.getfield 240, 3) := by decide +kernel
theorem dX12_keeps_9 : decode cX12_keeps 9 = .ok (.if_icmp .ge 87, 3) := by decide +kernel
theorem dX12_keeps_12 : decode cX12_keeps 12 = .ok (.aload_n 0, 1) := by decide +kernel
theorem dX12_keeps_13 : decode cX12_keeps 13 = .ok (.getfield 118, 3) := by decide +kernel
theorem dX12_keeps_16 : decode cX12_keeps 16 = .ok (.iload 5, 2) := by decide +kernel
theorem dX12_keeps_18 : decode cX12_keeps 18 = .ok (.iaload, 1) := by decide +kernel
theorem dX12_keeps_19 : decode cX12_keeps 19 = .ok (.istore 6, 2) := by decide +kernel
theorem dX12_keeps_21 : decode cX12_keeps 21 = .ok (.bipush 40, 2) := by decide +kernel
theorem dX12_keeps_23 : decode cX12_keeps 23 = .ok (.iload 6, 2) := by decide +kernel
theorem dX12_keeps_25 : decode cX12_keeps 25 = .ok (.imul, 1) := by decide +kernel
theorem dX12_keeps_26 : decode cX12_keeps 26 = .ok (.iload_n 1, 1) := by decide +kernel
theorem dX12_keeps_27 : decode cX12_keeps 27 = .ok (.iadd, 1) := by decide +kernel
theorem dX12_keeps_28 : decode cX12_keeps 28 = .ok (.istore 7, 2) := by decide +kernel
theorem dX12_keeps_30 : decode cX12_keeps 30 = .ok (.iload_n 3, 1) := by decide +kernel
theorem dX12_keeps_31 : decode cX12_keeps 31 = .ok (.iload 6, 2) := by decide +kernel
theorem dX12_keeps_33 : decode cX12_keeps 33 = .ok (.ishr, 1) := by decide +kernel
theorem dX12_keeps_34 : decode cX12_keeps 34 = .ok (.iconst 1, 1) := by decide +kernel
theorem dX12_keeps_35 : decode cX12_keeps 35 = .ok (.iand, 1) := by decide +kernel
theorem dX12_keeps_36 : decode cX12_keeps 36 = .ok (.ifCond .ne 54, 3) := by decide +kernel
theorem dX12_keeps_39 : decode cX12_keeps 39 = .ok (.aload_n 0, 1) := by decide +kernel
theorem dX12_keeps_40 : decode cX12_keeps 40 = .ok (.iload 6, 2) := by decide +kernel
theorem dX12_keeps_42 : decode cX12_keeps 42 = .ok (.invokevirtual 287, 3) := by decide +kernel
theorem dX12_keeps_45 : decode cX12_keeps 45 = .ok (.ifCond .eq 45, 3) := by decide +kernel
theorem dX12_keeps_48 : decode cX12_keeps 48 = .ok (.aload_n 0, 1) := by decide +kernel
theorem dX12_keeps_49 : decode cX12_keeps 49 = .ok (.getfield 74, 3) := by decide +kernel
theorem dX12_keeps_52 : decode cX12_keeps 52 = .ok (.iload 7, 2) := by decide +kernel
theorem dX12_keeps_54 : decode cX12_keeps 54 = .ok (.iaload, 1) := by decide +kernel
theorem dX12_keeps_55 : decode cX12_keeps 55 = .ok (.bipush (-2), 2) := by decide +kernel
theorem dX12_keeps_57 : decode cX12_keeps 57 = .ok (.if_icmp .eq 14, 3) := by decide +kernel
theorem dX12_keeps_60 : decode cX12_keeps 60 = .ok (.aload_n 0, 1) := by decide +kernel
theorem dX12_keeps_61 : decode cX12_keeps 61 = .ok (.getfield 74, 3) := by decide +kernel
theorem dX12_keeps_64 : decode cX12_keeps 64 = .ok (.iload 7, 2) := by decide +kernel
theorem dX12_keeps_66 : decode cX12_keeps 66 = .ok (.iaload, 1) := by decide +kernel
theorem dX12_keeps_67 : decode cX12_keeps 67 = .ok (.iload_n 2, 1) := by decide +kernel
theorem dX12_keeps_68 : decode cX12_keeps 68 = .ok (.if_icmp .ne 22, 3) := by decide +kernel
theorem dX12_keeps_71 : decode cX12_keeps 71 = .ok (.aload_n 0, 1) := by decide +kernel
theorem dX12_keeps_72 : decode cX12_keeps 72 = .ok (.getfield 71, 3) := by decide +kernel
theorem dX12_keeps_75 : decode cX12_keeps 75 = .ok (.iload 7, 2) := by decide +kernel
theorem dX12_keeps_77 : decode cX12_keeps 77 = .ok (.iload 4, 2) := by decide +kernel
theorem dX12_keeps_79 : decode cX12_keeps 79 = .ok (.iastore, 1) := by decide +kernel
theorem dX12_keeps_80 : decode cX12_keeps 80 = .ok (.aload_n 0, 1) := by decide +kernel
theorem dX12_keeps_81 : decode cX12_keeps 81 = .ok (.getfield 74, 3) := by decide +kernel
theorem dX12_keeps_84 : decode cX12_keeps 84 = .ok (.iload 7, 2) := by decide +kernel
theorem dX12_keeps_86 : decode cX12_keeps 86 = .ok (.iload_n 2, 1) := by decide +kernel
theorem dX12_keeps_87 : decode cX12_keeps 87 = .ok (.iastore, 1) := by decide +kernel
theorem dX12_keeps_88 : decode cX12_keeps 88 = .ok (.iconst 1, 1) := by decide +kernel
theorem dX12_keeps_89 : decode cX12_keeps 89 = .ok (.ireturn, 1) := by decide +kernel
theorem dX12_keeps_90 : decode cX12_keeps 90 = .ok (.iinc 5 1, 3) := by decide +kernel
theorem dX12_keeps_93 : decode cX12_keeps 93 = .ok (.goto (-90), 3) := by decide +kernel
theorem dX12_keeps_96 : decode cX12_keeps 96 = .ok (.iconst 0, 1) := by decide +kernel
theorem dX12_keeps_97 : decode cX12_keeps 97 = .ok (.ireturn, 1) := by decide +kernel
theorem dX12_write_8 : decode cX12_write 8 = .ok (.aload_n 0, 1) := by decide +kernel
theorem dX12_write_9 : decode cX12_write 9 = .ok (.iload_n 2, 1) := by decide +kernel
theorem dX12_write_10 : decode cX12_write 10 = .ok (.invokevirtual 158, 3) := by decide +kernel
theorem dX12_write_13 : decode cX12_write 13 = .ok (.ifCond .ne 5, 3) := by decide +kernel
theorem dX12_write_18 : decode cX12_write 18 = .ok (.aload_n 0, 1) := by decide +kernel
theorem dX12_write_19 : decode cX12_write 19 = .ok (.getfield 25, 3) := by decide +kernel
theorem dX12_write_22 : decode cX12_write 22 = .ok (.iload_n 1, 1) := by decide +kernel
theorem dX12_write_23 : decode cX12_write 23 = .ok (.iaload, 1) := by decide +kernel
theorem dX12_write_24 : decode cX12_write 24 = .ok (.ifCond .lt 11, 3) := by decide +kernel
theorem dX12_write_27 : decode cX12_write 27 = .ok (.aload_n 0, 1) := by decide +kernel
theorem dX12_write_28 : decode cX12_write 28 = .ok (.iload_n 1, 1) := by decide +kernel
theorem dX12_write_29 : decode cX12_write 29 = .ok (.invokevirtual 287, 3) := by decide +kernel
theorem dX12_write_32 : decode cX12_write 32 = .ok (.ifCond .ne 6, 3) := by decide +kernel
theorem dX12_write_35 : decode cX12_write 35 = .ok (.bipush (-5), 2) := by decide +kernel
theorem dX12_write_37 : decode cX12_write 37 = .ok (.ireturn, 1) := by decide +kernel
theorem dX12_write_38 : decode cX12_write 38 = .ok (.aload_n 0, 1) := by decide +kernel
theorem dX12_write_39 : decode cX12_write 39 = .ok (.getfield 83, 3) := by decide +kernel
theorem dX12_write_42 : decode cX12_write 42 = .ok (.iload_n 2, 1) := by decide +kernel
theorem dX12_write_43 : decode cX12_write 43 = .ok (.dup2, 1) := by decide +kernel
theorem dX12_write_44 : decode cX12_write 44 = .ok (.iaload, 1) := by decide +kernel
theorem dX12_write_45 : decode cX12_write 45 = .ok (.iconst 1, 1) := by decide +kernel
theorem dX12_write_46 : decode cX12_write 46 = .ok (.iadd, 1) := by decide +kernel
theorem dX12_write_47 : decode cX12_write 47 = .ok (.iastore, 1) := by decide +kernel
theorem dX12_write_48 : decode cX12_write 48 = .ok (.aload_n 0, 1) := by decide +kernel
theorem dX12_write_49 : decode cX12_write 49 = .ok (.dup, 1) := by decide +kernel
theorem dX12_write_50 : decode cX12_write 50 = .ok (.getfield 290, 3) := by decide +kernel
theorem dX12_write_53 : decode cX12_write 53 = .ok (.iconst 1, 1) := by decide +kernel
theorem dX12_write_54 : decode cX12_write 54 = .ok (.iadd, 1) := by decide +kernel
theorem dX12_write_55 : decode cX12_write 55 = .ok (.putfield 290, 3) := by decide +kernel
theorem dX12_write_58 : decode cX12_write 58 = .ok (.aload_n 0, 1) := by decide +kernel
theorem dX12_write_59 : decode cX12_write 59 = .ok (.aload_n 0, 1) := by decide +kernel
theorem dX12_write_60 : decode cX12_write 60 = .ok (.getfield 25, 3) := by decide +kernel
theorem dX12_write_63 : decode cX12_write 63 = .ok (.iload_n 1, 1) := by decide +kernel
theorem dX12_write_64 : decode cX12_write 64 = .ok (.iaload, 1) := by decide +kernel
theorem dX12_write_65 : decode cX12_write 65 = .ok (.iload_n 2, 1) := by decide +kernel
theorem dX12_write_66 : decode cX12_write 66 = .ok (.invokevirtual 269, 3) := by decide +kernel
theorem dX12_write_69 : decode cX12_write 69 = .ok (.aload_n 0, 1) := by decide +kernel
theorem dX12_write_70 : decode cX12_write 70 = .ok (.invokevirtual 281, 3) := by decide +kernel
theorem dX12_write_73 : decode cX12_write 73 = .ok (.istore_n 3, 1) := by decide +kernel
theorem dX12_write_74 : decode cX12_write 74 = .ok (.iconst 0, 1) := by decide +kernel
theorem dX12_write_75 : decode cX12_write 75 = .ok (.istore 4, 2) := by decide +kernel
theorem dX12_write_77 : decode cX12_write 77 = .ok (.iconst 0, 1) := by decide +kernel
theorem dX12_write_78 : decode cX12_write 78 = .ok (.istore 5, 2) := by decide +kernel
theorem dX12_write_80 : decode cX12_write 80 = .ok (.iload 5, 2) := by decide +kernel
theorem dX12_write_82 : decode cX12_write 82 = .ok (.aload_n 0, 1) := by decide +kernel
theorem dX12_write_83 : decode cX12_write 83 = .ok (.getfield 250, 3) := by decide +kernel
theorem dX12_write_86 : decode cX12_write 86 = .ok (.if_icmp .ge 95, 3) := by decide +kernel
theorem dX12_write_89 : decode cX12_write 89 = .ok (.aload_n 0, 1) := by decide +kernel
theorem dX12_write_90 : decode cX12_write 90 = .ok (.getfield 121, 3) := by decide +kernel
theorem dX12_write_93 : decode cX12_write 93 = .ok (.iload 5, 2) := by decide +kernel
theorem dX12_write_95 : decode cX12_write 95 = .ok (.iaload, 1) := by decide +kernel
theorem dX12_write_96 : decode cX12_write 96 = .ok (.istore 6, 2) := by decide +kernel
theorem dX12_write_98 : decode cX12_write 98 = .ok (.aload_n 0, 1) := by decide +kernel
theorem dX12_write_99 : decode cX12_write 99 = .ok (.getfield 28, 3) := by decide +kernel
theorem dX12_write_102 : decode cX12_write 102 = .ok (.iload 6, 2) := by decide +kernel
theorem dX12_write_104 : decode cX12_write 104 = .ok (.baload, 1) := by decide +kernel
theorem dX12_write_105 : decode cX12_write 105 = .ok (.ifCond .eq 6, 3) := by decide +kernel
theorem dX12_write_108 : decode cX12_write 108 = .ok (.goto 67, 3) := by decide +kernel
theorem dX12_write_111 : decode cX12_write 111 = .ok (.aload_n 0, 1) := by decide +kernel
theorem dX12_write_112 : decode cX12_write 112 = .ok (.getfield 22, 3) := by decide +kernel
theorem dX12_write_115 : decode cX12_write 115 = .ok (.iload 6, 2) := by decide +kernel
theorem dX12_write_117 : decode cX12_write 117 = .ok (.iaload, 1) := by decide +kernel
theorem dX12_write_118 : decode cX12_write 118 = .ok (.iconst 4, 1) := by decide +kernel
theorem dX12_write_119 : decode cX12_write 119 = .ok (.if_icmp .ne 25, 3) := by decide +kernel
theorem dX12_write_122 : decode cX12_write 122 = .ok (.iload 4, 2) := by decide +kernel
theorem dX12_write_124 : decode cX12_write 124 = .ok (.aload_n 0, 1) := by decide +kernel
theorem dX12_write_125 : decode cX12_write 125 = .ok (.iload_n 2, 1) := by decide +kernel
theorem dX12_write_126 : decode cX12_write 126 = .ok (.iload 6, 2) := by decide +kernel
theorem dX12_write_128 : decode cX12_write 128 = .ok (.iload_n 3, 1) := by decide +kernel
theorem dX12_write_129 : decode cX12_write 129 = .ok (.aload_n 0, 1) := by decide +kernel
theorem dX12_write_130 : decode cX12_write 130 = .ok (.getfield 83, 3) := by decide +kernel
theorem dX12_write_133 : decode cX12_write 133 = .ok (.iload_n 2, 1) := by decide +kernel
theorem dX12_write_134 : decode cX12_write 134 = .ok (.iaload, 1) := by decide +kernel
theorem dX12_write_135 : decode cX12_write 135 = .ok (.invokevirtual 293, 3) := by decide +kernel
theorem dX12_write_138 : decode cX12_write 138 = .ok (.iadd, 1) := by decide +kernel
theorem dX12_write_139 : decode cX12_write 139 = .ok (.istore 4, 2) := by decide +kernel
theorem dX12_write_141 : decode cX12_write 141 = .ok (.goto 34, 3) := by decide +kernel
theorem dX12_write_144 : decode cX12_write 144 = .ok (.aload_n 0, 1) := by decide +kernel
theorem dX12_write_145 : decode cX12_write 145 = .ok (.iload 6, 2) := by decide +kernel
theorem dX12_write_147 : decode cX12_write 147 = .ok (.iload_n 2, 1) := by decide +kernel
theorem dX12_write_148 : decode cX12_write 148 = .ok (.invokevirtual 297, 3) := by decide +kernel
theorem dX12_write_151 : decode cX12_write 151 = .ok (.ifCond .eq 24, 3) := by decide +kernel
theorem dX12_write_154 : decode cX12_write 154 = .ok (.aload_n 0, 1) := by decide +kernel
theorem dX12_write_155 : decode cX12_write 155 = .ok (.getfield 68, 3) := by decide +kernel
theorem dX12_write_158 : decode cX12_write 158 = .ok (.bipush 40, 2) := by decide +kernel
theorem dX12_write_160 : decode cX12_write 160 = .ok (.iload 6, 2) := by decide +kernel
theorem dX12_write_162 : decode cX12_write 162 = .ok (.imul, 1) := by decide +kernel
theorem dX12_write_163 : decode cX12_write 163 = .ok (.iload_n 2, 1) := by decide +kernel
theorem dX12_write_164 : decode cX12_write 164 = .ok (.iadd, 1) := by decide +kernel
theorem dX12_write_165 : decode cX12_write 165 = .ok (.aload_n 0, 1) := by decide +kernel
theorem dX12_write_166 : decode cX12_write 166 = .ok (.getfield 83, 3) := by decide +kernel
theorem dX12_write_169 : decode cX12_write 169 = .ok (.iload_n 2, 1) := by decide +kernel
theorem dX12_write_170 : decode cX12_write 170 = .ok (.iaload, 1) := by decide +kernel
theorem dX12_write_171 : decode cX12_write 171 = .ok (.iastore, 1) := by decide +kernel
theorem dX12_write_172 : decode cX12_write 172 = .ok (.iinc 4 1, 3) := by decide +kernel
theorem dX12_write_175 : decode cX12_write 175 = .ok (.iinc 5 1, 3) := by decide +kernel
theorem dX12_write_178 : decode cX12_write 178 = .ok (.goto (-98), 3) := by decide +kernel
theorem dX12_write_181 : decode cX12_write 181 = .ok (.iload 4, 2) := by decide +kernel
theorem dX12_write_183 : decode cX12_write 183 = .ok (.ireturn, 1) := by decide +kernel
theorem dX12_read_8 : decode cX12_read 8 = .ok (.aload_n 0, 1) := by decide +kernel
theorem dX12_read_9 : decode cX12_read 9 = .ok (.iload_n 2, 1) := by decide +kernel
theorem dX12_read_10 : decode cX12_read 10 = .ok (.invokevirtual 158, 3) := by decide +kernel
theorem dX12_read_13 : decode cX12_read 13 = .ok (.ifCond .ne 5, 3) := by decide +kernel
theorem dX12_read_18 : decode cX12_read 18 = .ok (.aload_n 0, 1) := by decide +kernel
theorem dX12_read_19 : decode cX12_read 19 = .ok (.getfield 25, 3) := by decide +kernel
theorem dX12_read_22 : decode cX12_read 22 = .ok (.iload_n 1, 1) := by decide +kernel
theorem dX12_read_23 : decode cX12_read 23 = .ok (.iaload, 1) := by decide +kernel
theorem dX12_read_24 : decode cX12_read 24 = .ok (.ifCond .lt 11, 3) := by decide +kernel
theorem dX12_read_27 : decode cX12_read 27 = .ok (.aload_n 0, 1) := by decide +kernel
theorem dX12_read_28 : decode cX12_read 28 = .ok (.iload_n 1, 1) := by decide +kernel
theorem dX12_read_29 : decode cX12_read 29 = .ok (.invokevirtual 287, 3) := by decide +kernel
theorem dX12_read_32 : decode cX12_read 32 = .ok (.ifCond .ne 6, 3) := by decide +kernel
theorem dX12_read_35 : decode cX12_read 35 = .ok (.bipush (-5), 2) := by decide +kernel
theorem dX12_read_37 : decode cX12_read 37 = .ok (.ireturn, 1) := by decide +kernel
theorem dX12_read_38 : decode cX12_read 38 = .ok (.aload_n 0, 1) := by decide +kernel
theorem dX12_read_39 : decode cX12_read 39 = .ok (.aload_n 0, 1) := by decide +kernel
theorem dX12_read_40 : decode cX12_read 40 = .ok (.getfield 25, 3) := by decide +kernel
theorem dX12_read_43 : decode cX12_read 43 = .ok (.iload_n 1, 1) := by decide +kernel
theorem dX12_read_44 : decode cX12_read 44 = .ok (.iaload, 1) := by decide +kernel
theorem dX12_read_45 : decode cX12_read 45 = .ok (.iload_n 2, 1) := by decide +kernel
theorem dX12_read_46 : decode cX12_read 46 = .ok (.invokevirtual 269, 3) := by decide +kernel
theorem dX12_read_49 : decode cX12_read 49 = .ok (.iconst 0, 1) := by decide +kernel
theorem dX12_read_50 : decode cX12_read 50 = .ok (.istore_n 3, 1) := by decide +kernel
theorem dX12_read_51 : decode cX12_read 51 = .ok (.iconst 0, 1) := by decide +kernel
theorem dX12_read_52 : decode cX12_read 52 = .ok (.istore 4, 2) := by decide +kernel
theorem dX12_read_54 : decode cX12_read 54 = .ok (.iload 4, 2) := by decide +kernel
theorem dX12_read_56 : decode cX12_read 56 = .ok (.aload_n 0, 1) := by decide +kernel
theorem dX12_read_57 : decode cX12_read 57 = .ok (.getfield 250, 3) := by decide +kernel
theorem dX12_read_60 : decode cX12_read 60 = .ok (.if_icmp .ge 59, 3) := by decide +kernel
theorem dX12_read_63 : decode cX12_read 63 = .ok (.aload_n 0, 1) := by decide +kernel
theorem dX12_read_64 : decode cX12_read 64 = .ok (.aload_n 0, 1) := by decide +kernel
theorem dX12_read_65 : decode cX12_read 65 = .ok (.getfield 121, 3) := by decide +kernel
theorem dX12_read_68 : decode cX12_read 68 = .ok (.iload 4, 2) := by decide +kernel
theorem dX12_read_70 : decode cX12_read 70 = .ok (.iaload, 1) := by decide +kernel
theorem dX12_read_71 : decode cX12_read 71 = .ok (.invokevirtual 287, 3) := by decide +kernel
theorem dX12_read_74 : decode cX12_read 74 = .ok (.ifCond .eq 23, 3) := by decide +kernel
theorem dX12_read_77 : decode cX12_read 77 = .ok (.aload_n 0, 1) := by decide +kernel
theorem dX12_read_78 : decode cX12_read 78 = .ok (.getfield 68, 3) := by decide +kernel
theorem dX12_read_81 : decode cX12_read 81 = .ok (.bipush 40, 2) := by decide +kernel
theorem dX12_read_83 : decode cX12_read 83 = .ok (.aload_n 0, 1) := by decide +kernel
theorem dX12_read_84 : decode cX12_read 84 = .ok (.getfield 121, 3) := by decide +kernel
theorem dX12_read_87 : decode cX12_read 87 = .ok (.iload 4, 2) := by decide +kernel
theorem dX12_read_89 : decode cX12_read 89 = .ok (.iaload, 1) := by decide +kernel
theorem dX12_read_90 : decode cX12_read 90 = .ok (.imul, 1) := by decide +kernel
theorem dX12_read_91 : decode cX12_read 91 = .ok (.iload_n 2, 1) := by decide +kernel
theorem dX12_read_92 : decode cX12_read 92 = .ok (.iadd, 1) := by decide +kernel
theorem dX12_read_93 : decode cX12_read 93 = .ok (.iaload, 1) := by decide +kernel
theorem dX12_read_94 : decode cX12_read 94 = .ok (.goto 4, 3) := by decide +kernel
theorem dX12_read_97 : decode cX12_read 97 = .ok (.iconst 0, 1) := by decide +kernel
theorem dX12_read_98 : decode cX12_read 98 = .ok (.istore 5, 2) := by decide +kernel
theorem dX12_read_100 : decode cX12_read 100 = .ok (.iload 5, 2) := by decide +kernel
theorem dX12_read_102 : decode cX12_read 102 = .ok (.iload_n 3, 1) := by decide +kernel
theorem dX12_read_103 : decode cX12_read 103 = .ok (.if_icmp .le 8, 3) := by decide +kernel
theorem dX12_read_106 : decode cX12_read 106 = .ok (.iload 5, 2) := by decide +kernel
theorem dX12_read_108 : decode cX12_read 108 = .ok (.goto 4, 3) := by decide +kernel
theorem dX12_read_111 : decode cX12_read 111 = .ok (.iload_n 3, 1) := by decide +kernel
theorem dX12_read_112 : decode cX12_read 112 = .ok (.istore_n 3, 1) := by decide +kernel
theorem dX12_read_113 : decode cX12_read 113 = .ok (.iinc 4 1, 3) := by decide +kernel
theorem dX12_read_116 : decode cX12_read 116 = .ok (.goto (-62), 3) := by decide +kernel
theorem dX12_read_119 : decode cX12_read 119 = .ok (.iload_n 3, 1) := by decide +kernel
theorem dX12_read_120 : decode cX12_read 120 = .ok (.ireturn, 1) := by decide +kernel
theorem dX12_onShelf_8 : decode cX12_onShelf 8 = .ok (.aload_n 0, 1) := by decide +kernel
theorem dX12_onShelf_9 : decode cX12_onShelf 9 = .ok (.iload_n 2, 1) := by decide +kernel
theorem dX12_onShelf_10 : decode cX12_onShelf 10 = .ok (.invokevirtual 158, 3) := by decide +kernel
theorem dX12_onShelf_13 : decode cX12_onShelf 13 = .ok (.ifCond .ne 5, 3) := by decide +kernel
theorem dX12_onShelf_18 : decode cX12_onShelf 18 = .ok (.bipush 40, 2) := by decide +kernel
theorem dX12_onShelf_20 : decode cX12_onShelf 20 = .ok (.iload_n 1, 1) := by decide +kernel
theorem dX12_onShelf_21 : decode cX12_onShelf 21 = .ok (.imul, 1) := by decide +kernel
theorem dX12_onShelf_22 : decode cX12_onShelf 22 = .ok (.iload_n 2, 1) := by decide +kernel
theorem dX12_onShelf_23 : decode cX12_onShelf 23 = .ok (.iadd, 1) := by decide +kernel
theorem dX12_onShelf_24 : decode cX12_onShelf 24 = .ok (.istore 4, 2) := by decide +kernel
theorem dX12_onShelf_26 : decode cX12_onShelf 26 = .ok (.iload_n 3, 1) := by decide +kernel
theorem dX12_onShelf_27 : decode cX12_onShelf 27 = .ok (.ifCond .ne 13, 3) := by decide +kernel
theorem dX12_onShelf_30 : decode cX12_onShelf 30 = .ok (.aload_n 0, 1) := by decide +kernel
theorem dX12_onShelf_31 : decode cX12_onShelf 31 = .ok (.getfield 68, 3) := by decide +kernel
theorem dX12_onShelf_34 : decode cX12_onShelf 34 = .ok (.iload 4, 2) := by decide +kernel
theorem dX12_onShelf_36 : decode cX12_onShelf 36 = .ok (.iaload, 1) := by decide +kernel
theorem dX12_onShelf_37 : decode cX12_onShelf 37 = .ok (.goto 49, 3) := by decide +kernel
theorem dX12_onShelf_40 : decode cX12_onShelf 40 = .ok (.iload_n 3, 1) := by decide +kernel
theorem dX12_onShelf_41 : decode cX12_onShelf 41 = .ok (.iconst 1, 1) := by decide +kernel
theorem dX12_onShelf_42 : decode cX12_onShelf 42 = .ok (.if_icmp .ne 13, 3) := by decide +kernel
theorem dX12_onShelf_45 : decode cX12_onShelf 45 = .ok (.aload_n 0, 1) := by decide +kernel
theorem dX12_onShelf_46 : decode cX12_onShelf 46 = .ok (.getfield 71, 3) := by decide +kernel
theorem dX12_onShelf_49 : decode cX12_onShelf 49 = .ok (.iload 4, 2) := by decide +kernel
theorem dX12_onShelf_51 : decode cX12_onShelf 51 = .ok (.iaload, 1) := by decide +kernel
theorem dX12_onShelf_52 : decode cX12_onShelf 52 = .ok (.goto 34, 3) := by decide +kernel
theorem dX12_onShelf_55 : decode cX12_onShelf 55 = .ok (.iload_n 3, 1) := by decide +kernel
theorem dX12_onShelf_56 : decode cX12_onShelf 56 = .ok (.iconst 2, 1) := by decide +kernel
theorem dX12_onShelf_57 : decode cX12_onShelf 57 = .ok (.if_icmp .ne 13, 3) := by decide +kernel
theorem dX12_onShelf_60 : decode cX12_onShelf 60 = .ok (.aload_n 0, 1) := by decide +kernel
theorem dX12_onShelf_61 : decode cX12_onShelf 61 = .ok (.getfield 74, 3) := by decide +kernel
theorem dX12_onShelf_64 : decode cX12_onShelf 64 = .ok (.iload 4, 2) := by decide +kernel
theorem dX12_onShelf_66 : decode cX12_onShelf 66 = .ok (.iaload, 1) := by decide +kernel
theorem dX12_onShelf_67 : decode cX12_onShelf 67 = .ok (.goto 19, 3) := by decide +kernel
theorem dX12_onShelf_70 : decode cX12_onShelf 70 = .ok (.iload_n 3, 1) := by decide +kernel
theorem dX12_onShelf_71 : decode cX12_onShelf 71 = .ok (.iconst 3, 1) := by decide +kernel
theorem dX12_onShelf_72 : decode cX12_onShelf 72 = .ok (.if_icmp .ne 13, 3) := by decide +kernel
theorem dX12_onShelf_75 : decode cX12_onShelf 75 = .ok (.aload_n 0, 1) := by decide +kernel
theorem dX12_onShelf_76 : decode cX12_onShelf 76 = .ok (.getfield 77, 3) := by decide +kernel
theorem dX12_onShelf_79 : decode cX12_onShelf 79 = .ok (.iload 4, 2) := by decide +kernel
theorem dX12_onShelf_81 : decode cX12_onShelf 81 = .ok (.iaload, 1) := by decide +kernel
theorem dX12_onShelf_82 : decode cX12_onShelf 82 = .ok (.goto 4, 3) := by decide +kernel
theorem dX12_onShelf_85 : decode cX12_onShelf 85 = .ok (.iconst (-1), 1) := by decide +kernel
theorem dX12_onShelf_86 : decode cX12_onShelf 86 = .ok (.ireturn, 1) := by decide +kernel
theorem dX12_fall_8 : decode cX12_fall 8 = .ok (.iload_n 2, 1) := by decide +kernel
theorem dX12_fall_9 : decode cX12_fall 9 = .ok (.iconst 0, 1) := by decide +kernel
theorem dX12_fall_10 : decode cX12_fall 10 = .ok (.iconst 1, 1) := by decide +kernel
theorem dX12_fall_11 : decode cX12_fall 11 = .ok (.invokestatic 136, 3) := by decide +kernel
theorem dX12_fall_14 : decode cX12_fall 14 = .ok (.ifCond .ne 5, 3) := by decide +kernel
theorem dX12_fall_19 : decode cX12_fall 19 = .ok (.aload_n 0, 1) := by decide +kernel
theorem dX12_fall_20 : decode cX12_fall 20 = .ok (.getfield 28, 3) := by decide +kernel
theorem dX12_fall_23 : decode cX12_fall 23 = .ok (.iload_n 1, 1) := by decide +kernel
theorem dX12_fall_24 : decode cX12_fall 24 = .ok (.baload, 1) := by decide +kernel
theorem dX12_fall_25 : decode cX12_fall 25 = .ok (.ifCond .eq 7, 3) := by decide +kernel
theorem dX12_fall_28 : decode cX12_fall 28 = .ok (.iconst 1, 1) := by decide +kernel
theorem dX12_fall_29 : decode cX12_fall 29 = .ok (.goto 4, 3) := by decide +kernel
theorem dX12_fall_32 : decode cX12_fall 32 = .ok (.iconst 0, 1) := by decide +kernel
theorem dX12_fall_33 : decode cX12_fall 33 = .ok (.istore_n 3, 1) := by decide +kernel
theorem dX12_fall_34 : decode cX12_fall 34 = .ok (.aload_n 0, 1) := by decide +kernel
theorem dX12_fall_35 : decode cX12_fall 35 = .ok (.getfield 28, 3) := by decide +kernel
theorem dX12_fall_38 : decode cX12_fall 38 = .ok (.iload_n 1, 1) := by decide +kernel
theorem dX12_fall_39 : decode cX12_fall 39 = .ok (.iload_n 2, 1) := by decide +kernel
theorem dX12_fall_40 : decode cX12_fall 40 = .ok (.iconst 1, 1) := by decide +kernel
theorem dX12_fall_41 : decode cX12_fall 41 = .ok (.if_icmp .ne 7, 3) := by decide +kernel
theorem dX12_fall_44 : decode cX12_fall 44 = .ok (.iconst 1, 1) := by decide +kernel
theorem dX12_fall_45 : decode cX12_fall 45 = .ok (.goto 4, 3) := by decide +kernel
theorem dX12_fall_48 : decode cX12_fall 48 = .ok (.iconst 0, 1) := by decide +kernel
theorem dX12_fall_49 : decode cX12_fall 49 = .ok (.bastore, 1) := by decide +kernel
theorem dX12_fall_50 : decode cX12_fall 50 = .ok (.iconst 0, 1) := by decide +kernel
theorem dX12_fall_51 : decode cX12_fall 51 = .ok (.istore 4, 2) := by decide +kernel
theorem dX12_fall_53 : decode cX12_fall 53 = .ok (.iload 4, 2) := by decide +kernel
theorem dX12_fall_55 : decode cX12_fall 55 = .ok (.bipush 40, 2) := by decide +kernel
theorem dX12_fall_57 : decode cX12_fall 57 = .ok (.if_icmp .ge 54, 3) := by decide +kernel
theorem dX12_fall_60 : decode cX12_fall 60 = .ok (.iload_n 2, 1) := by decide +kernel
theorem dX12_fall_61 : decode cX12_fall 61 = .ok (.iconst 1, 1) := by decide +kernel
theorem dX12_fall_62 : decode cX12_fall 62 = .ok (.if_icmp .ne 49, 3) := by decide +kernel
theorem dX12_fall_65 : decode cX12_fall 65 = .ok (.aload_n 0, 1) := by decide +kernel
theorem dX12_fall_66 : decode cX12_fall 66 = .ok (.getfield 68, 3) := by decide +kernel
theorem dX12_fall_69 : decode cX12_fall 69 = .ok (.bipush 40, 2) := by decide +kernel
theorem dX12_fall_71 : decode cX12_fall 71 = .ok (.iload_n 1, 1) := by decide +kernel
theorem dX12_fall_72 : decode cX12_fall 72 = .ok (.imul, 1) := by decide +kernel
theorem dX12_fall_73 : decode cX12_fall 73 = .ok (.iload 4, 2) := by decide +kernel
theorem dX12_fall_75 : decode cX12_fall 75 = .ok (.iadd, 1) := by decide +kernel
theorem dX12_fall_76 : decode cX12_fall 76 = .ok (.iconst 0, 1) := by decide +kernel
theorem dX12_fall_77 : decode cX12_fall 77 = .ok (.iastore, 1) := by decide +kernel
theorem dX12_fall_78 : decode cX12_fall 78 = .ok (.aload_n 0, 1) := by decide +kernel
theorem dX12_fall_79 : decode cX12_fall 79 = .ok (.getfield 71, 3) := by decide +kernel
theorem dX12_fall_82 : decode cX12_fall 82 = .ok (.bipush 40, 2) := by decide +kernel
theorem dX12_fall_84 : decode cX12_fall 84 = .ok (.iload_n 1, 1) := by decide +kernel
theorem dX12_fall_85 : decode cX12_fall 85 = .ok (.imul, 1) := by decide +kernel
theorem dX12_fall_86 : decode cX12_fall 86 = .ok (.iload 4, 2) := by decide +kernel
theorem dX12_fall_88 : decode cX12_fall 88 = .ok (.iadd, 1) := by decide +kernel
theorem dX12_fall_89 : decode cX12_fall 89 = .ok (.iconst 0, 1) := by decide +kernel
theorem dX12_fall_90 : decode cX12_fall 90 = .ok (.iastore, 1) := by decide +kernel
theorem dX12_fall_91 : decode cX12_fall 91 = .ok (.aload_n 0, 1) := by decide +kernel
theorem dX12_fall_92 : decode cX12_fall 92 = .ok (.getfield 74, 3) := by decide +kernel
theorem dX12_fall_95 : decode cX12_fall 95 = .ok (.bipush 40, 2) := by decide +kernel
theorem dX12_fall_97 : decode cX12_fall 97 = .ok (.iload_n 1, 1) := by decide +kernel
theorem dX12_fall_98 : decode cX12_fall 98 = .ok (.imul, 1) := by decide +kernel
theorem dX12_fall_99 : decode cX12_fall 99 = .ok (.iload 4, 2) := by decide +kernel
theorem dX12_fall_101 : decode cX12_fall 101 = .ok (.iadd, 1) := by decide +kernel
theorem dX12_fall_102 : decode cX12_fall 102 = .ok (.bipush (-2), 2) := by decide +kernel
theorem dX12_fall_104 : decode cX12_fall 104 = .ok (.iastore, 1) := by decide +kernel
theorem dX12_fall_105 : decode cX12_fall 105 = .ok (.iinc 4 1, 3) := by decide +kernel
theorem dX12_fall_108 : decode cX12_fall 108 = .ok (.goto (-55), 3) := by decide +kernel
theorem dX12_fall_111 : decode cX12_fall 111 = .ok (.iload_n 3, 1) := by decide +kernel
theorem dX12_fall_112 : decode cX12_fall 112 = .ok (.ireturn, 1) := by decide +kernel
theorem dX12_half_8 : decode cX12_half 8 = .ok (.aload_n 0, 1) := by decide +kernel
theorem dX12_half_9 : decode cX12_half 9 = .ok (.iload_n 2, 1) := by decide +kernel
theorem dX12_half_10 : decode cX12_half 10 = .ok (.invokevirtual 166, 3) := by decide +kernel
theorem dX12_half_13 : decode cX12_half 13 = .ok (.ifCond .eq 16, 3) := by decide +kernel
theorem dX12_half_16 : decode cX12_half 16 = .ok (.aload_n 0, 1) := by decide +kernel
theorem dX12_half_17 : decode cX12_half 17 = .ok (.iload_n 3, 1) := by decide +kernel
theorem dX12_half_18 : decode cX12_half 18 = .ok (.invokevirtual 166, 3) := by decide +kernel
theorem dX12_half_21 : decode cX12_half 21 = .ok (.ifCond .eq 8, 3) := by decide +kernel
theorem dX12_half_24 : decode cX12_half 24 = .ok (.iload_n 2, 1) := by decide +kernel
theorem dX12_half_25 : decode cX12_half 25 = .ok (.iload_n 3, 1) := by decide +kernel
theorem dX12_half_26 : decode cX12_half 26 = .ok (.if_icmp .ne 5, 3) := by decide +kernel
theorem dX12_half_31 : decode cX12_half 31 = .ok (.bipush 40, 2) := by decide +kernel
theorem dX12_half_33 : decode cX12_half 33 = .ok (.iload_n 2, 1) := by decide +kernel
theorem dX12_half_34 : decode cX12_half 34 = .ok (.imul, 1) := by decide +kernel
theorem dX12_half_35 : decode cX12_half 35 = .ok (.iload_n 1, 1) := by decide +kernel
theorem dX12_half_36 : decode cX12_half 36 = .ok (.iadd, 1) := by decide +kernel
theorem dX12_half_37 : decode cX12_half 37 = .ok (.istore 4, 2) := by decide +kernel
theorem dX12_half_39 : decode cX12_half 39 = .ok (.aload_n 0, 1) := by decide +kernel
theorem dX12_half_40 : decode cX12_half 40 = .ok (.getfield 68, 3) := by decide +kernel
theorem dX12_half_43 : decode cX12_half 43 = .ok (.iload 4, 2) := by decide +kernel
theorem dX12_half_45 : decode cX12_half 45 = .ok (.iaload, 1) := by decide +kernel
theorem dX12_half_46 : decode cX12_half 46 = .ok (.ifCond .ne 6, 3) := by decide +kernel
theorem dX12_half_49 : decode cX12_half 49 = .ok (.bipush (-2), 2) := by decide +kernel
theorem dX12_half_51 : decode cX12_half 51 = .ok (.ireturn, 1) := by decide +kernel
theorem dX12_half_52 : decode cX12_half 52 = .ok (.aload_n 0, 1) := by decide +kernel
theorem dX12_half_53 : decode cX12_half 53 = .ok (.iload_n 2, 1) := by decide +kernel
theorem dX12_half_54 : decode cX12_half 54 = .ok (.invokevirtual 287, 3) := by decide +kernel
theorem dX12_half_57 : decode cX12_half 57 = .ok (.ifCond .eq 11, 3) := by decide +kernel
theorem dX12_half_60 : decode cX12_half 60 = .ok (.aload_n 0, 1) := by decide +kernel
theorem dX12_half_61 : decode cX12_half 61 = .ok (.iload_n 3, 1) := by decide +kernel
theorem dX12_half_62 : decode cX12_half 62 = .ok (.invokevirtual 287, 3) := by decide +kernel
theorem dX12_half_65 : decode cX12_half 65 = .ok (.ifCond .ne 13, 3) := by decide +kernel
theorem dX12_half_68 : decode cX12_half 68 = .ok (.aload_n 0, 1) := by decide +kernel
theorem dX12_half_69 : decode cX12_half 69 = .ok (.getfield 77, 3) := by decide +kernel
theorem dX12_half_72 : decode cX12_half 72 = .ok (.iload 4, 2) := by decide +kernel
theorem dX12_half_74 : decode cX12_half 74 = .ok (.iconst 0, 1) := by decide +kernel
theorem dX12_half_75 : decode cX12_half 75 = .ok (.iastore, 1) := by decide +kernel
theorem dX12_half_76 : decode cX12_half 76 = .ok (.iconst 0, 1) := by decide +kernel
theorem dX12_half_77 : decode cX12_half 77 = .ok (.ireturn, 1) := by decide +kernel
theorem dX12_half_78 : decode cX12_half 78 = .ok (.aload_n 0, 1) := by decide +kernel
theorem dX12_half_79 : decode cX12_half 79 = .ok (.getfield 77, 3) := by decide +kernel
theorem dX12_half_82 : decode cX12_half 82 = .ok (.iload 4, 2) := by decide +kernel
theorem dX12_half_84 : decode cX12_half 84 = .ok (.aload_n 0, 1) := by decide +kernel
theorem dX12_half_85 : decode cX12_half 85 = .ok (.getfield 77, 3) := by decide +kernel
theorem dX12_half_88 : decode cX12_half 88 = .ok (.iload 4, 2) := by decide +kernel
theorem dX12_half_90 : decode cX12_half 90 = .ok (.iaload, 1) := by decide +kernel
theorem dX12_half_91 : decode cX12_half 91 = .ok (.ifCond .le 26, 3) := by decide +kernel
theorem dX12_half_94 : decode cX12_half 94 = .ok (.aload_n 0, 1) := by decide +kernel
theorem dX12_half_95 : decode cX12_half 95 = .ok (.getfield 80, 3) := by decide +kernel
theorem dX12_half_98 : decode cX12_half 98 = .ok (.iload 4, 2) := by decide +kernel
theorem dX12_half_100 : decode cX12_half 100 = .ok (.iaload, 1) := by decide +kernel
theorem dX12_half_101 : decode cX12_half 101 = .ok (.iload_n 3, 1) := by decide +kernel
theorem dX12_half_102 : decode cX12_half 102 = .ok (.if_icmp .ne 15, 3) := by decide +kernel
theorem dX12_half_105 : decode cX12_half 105 = .ok (.aload_n 0, 1) := by decide +kernel
theorem dX12_half_106 : decode cX12_half 106 = .ok (.getfield 77, 3) := by decide +kernel
theorem dX12_half_109 : decode cX12_half 109 = .ok (.iload 4, 2) := by decide +kernel
theorem dX12_half_111 : decode cX12_half 111 = .ok (.iaload, 1) := by decide +kernel
theorem dX12_half_112 : decode cX12_half 112 = .ok (.iconst 1, 1) := by decide +kernel
theorem dX12_half_113 : decode cX12_half 113 = .ok (.iadd, 1) := by decide +kernel
theorem dX12_half_114 : decode cX12_half 114 = .ok (.goto 4, 3) := by decide +kernel
theorem dX12_half_117 : decode cX12_half 117 = .ok (.iconst 1, 1) := by decide +kernel
theorem dX12_half_118 : decode cX12_half 118 = .ok (.iastore, 1) := by decide +kernel
theorem dX12_half_119 : decode cX12_half 119 = .ok (.aload_n 0, 1) := by decide +kernel
theorem dX12_half_120 : decode cX12_half 120 = .ok (.getfield 80, 3) := by decide +kernel
theorem dX12_half_123 : decode cX12_half 123 = .ok (.iload 4, 2) := by decide +kernel
theorem dX12_half_125 : decode cX12_half 125 = .ok (.iload_n 3, 1) := by decide +kernel
theorem dX12_half_126 : decode cX12_half 126 = .ok (.iastore, 1) := by decide +kernel
theorem dX12_half_127 : decode cX12_half 127 = .ok (.aload_n 0, 1) := by decide +kernel
theorem dX12_half_128 : decode cX12_half 128 = .ok (.getfield 77, 3) := by decide +kernel
theorem dX12_half_131 : decode cX12_half 131 = .ok (.iload 4, 2) := by decide +kernel
theorem dX12_half_133 : decode cX12_half 133 = .ok (.iaload, 1) := by decide +kernel
theorem dX12_half_134 : decode cX12_half 134 = .ok (.iconst 3, 1) := by decide +kernel
theorem dX12_half_135 : decode cX12_half 135 = .ok (.if_icmp .ge 11, 3) := by decide +kernel
theorem dX12_half_138 : decode cX12_half 138 = .ok (.aload_n 0, 1) := by decide +kernel
theorem dX12_half_139 : decode cX12_half 139 = .ok (.getfield 77, 3) := by decide +kernel
theorem dX12_half_142 : decode cX12_half 142 = .ok (.iload 4, 2) := by decide +kernel
theorem dX12_half_144 : decode cX12_half 144 = .ok (.iaload, 1) := by decide +kernel
theorem dX12_half_145 : decode cX12_half 145 = .ok (.ireturn, 1) := by decide +kernel
theorem dX12_half_146 : decode cX12_half 146 = .ok (.bipush 40, 2) := by decide +kernel
theorem dX12_half_148 : decode cX12_half 148 = .ok (.iload_n 3, 1) := by decide +kernel
theorem dX12_half_149 : decode cX12_half 149 = .ok (.imul, 1) := by decide +kernel
theorem dX12_half_150 : decode cX12_half 150 = .ok (.iload_n 1, 1) := by decide +kernel
theorem dX12_half_151 : decode cX12_half 151 = .ok (.iadd, 1) := by decide +kernel
theorem dX12_half_152 : decode cX12_half 152 = .ok (.istore 5, 2) := by decide +kernel
theorem dX12_half_154 : decode cX12_half 154 = .ok (.aload_n 0, 1) := by decide +kernel
theorem dX12_half_155 : decode cX12_half 155 = .ok (.getfield 68, 3) := by decide +kernel
theorem dX12_half_158 : decode cX12_half 158 = .ok (.iload 5, 2) := by decide +kernel
theorem dX12_half_160 : decode cX12_half 160 = .ok (.aload_n 0, 1) := by decide +kernel
theorem dX12_half_161 : decode cX12_half 161 = .ok (.getfield 68, 3) := by decide +kernel
theorem dX12_half_164 : decode cX12_half 164 = .ok (.iload 4, 2) := by decide +kernel
theorem dX12_half_166 : decode cX12_half 166 = .ok (.iaload, 1) := by decide +kernel
theorem dX12_half_167 : decode cX12_half 167 = .ok (.aload_n 0, 1) := by decide +kernel
theorem dX12_half_168 : decode cX12_half 168 = .ok (.getfield 68, 3) := by decide +kernel
theorem dX12_half_171 : decode cX12_half 171 = .ok (.iload 5, 2) := by decide +kernel
theorem dX12_half_173 : decode cX12_half 173 = .ok (.iaload, 1) := by decide +kernel
theorem dX12_half_174 : decode cX12_half 174 = .ok (.if_icmp .le 13, 3) := by decide +kernel
theorem dX12_half_177 : decode cX12_half 177 = .ok (.aload_n 0, 1) := by decide +kernel
theorem dX12_half_178 : decode cX12_half 178 = .ok (.getfield 68, 3) := by decide +kernel
theorem dX12_half_181 : decode cX12_half 181 = .ok (.iload 4, 2) := by decide +kernel
theorem dX12_half_183 : decode cX12_half 183 = .ok (.iaload, 1) := by decide +kernel
theorem dX12_half_184 : decode cX12_half 184 = .ok (.goto 10, 3) := by decide +kernel
theorem dX12_half_187 : decode cX12_half 187 = .ok (.aload_n 0, 1) := by decide +kernel
theorem dX12_half_188 : decode cX12_half 188 = .ok (.getfield 68, 3) := by decide +kernel
theorem dX12_half_191 : decode cX12_half 191 = .ok (.iload 5, 2) := by decide +kernel
theorem dX12_half_193 : decode cX12_half 193 = .ok (.iaload, 1) := by decide +kernel
theorem dX12_half_194 : decode cX12_half 194 = .ok (.iastore, 1) := by decide +kernel
theorem dX12_half_195 : decode cX12_half 195 = .ok (.aload_n 0, 1) := by decide +kernel
theorem dX12_half_196 : decode cX12_half 196 = .ok (.getfield 68, 3) := by decide +kernel
theorem dX12_half_199 : decode cX12_half 199 = .ok (.iload 4, 2) := by decide +kernel
theorem dX12_half_201 : decode cX12_half 201 = .ok (.iconst 0, 1) := by decide +kernel
theorem dX12_half_202 : decode cX12_half 202 = .ok (.iastore, 1) := by decide +kernel
theorem dX12_half_203 : decode cX12_half 203 = .ok (.aload_n 0, 1) := by decide +kernel
theorem dX12_half_204 : decode cX12_half 204 = .ok (.getfield 77, 3) := by decide +kernel
theorem dX12_half_207 : decode cX12_half 207 = .ok (.iload 4, 2) := by decide +kernel
theorem dX12_half_209 : decode cX12_half 209 = .ok (.iconst 0, 1) := by decide +kernel
theorem dX12_half_210 : decode cX12_half 210 = .ok (.iastore, 1) := by decide +kernel
theorem dX12_half_211 : decode cX12_half 211 = .ok (.iconst 3, 1) := by decide +kernel
theorem dX12_half_212 : decode cX12_half 212 = .ok (.ireturn, 1) := by decide +kernel
theorem dX12_mend_10 : decode cX12_mend 10 = .ok (.iconst 0, 1) := by decide +kernel
theorem dX12_mend_11 : decode cX12_mend 11 = .ok (.istore_n 2, 1) := by decide +kernel
theorem dX12_mend_12 : decode cX12_mend 12 = .ok (.iconst 0, 1) := by decide +kernel
theorem dX12_mend_13 : decode cX12_mend 13 = .ok (.istore_n 3, 1) := by decide +kernel
theorem dX12_mend_14 : decode cX12_mend 14 = .ok (.iload_n 3, 1) := by decide +kernel
theorem dX12_mend_15 : decode cX12_mend 15 = .ok (.aload_n 0, 1) := by decide +kernel
theorem dX12_mend_16 : decode cX12_mend 16 = .ok (.getfield 133, 3) := by decide +kernel
theorem dX12_mend_19 : decode cX12_mend 19 = .ok (.if_icmp .ge 167, 3) := by decide +kernel
theorem dX12_mend_22 : decode cX12_mend 22 = .ok (.iconst 0, 1) := by decide +kernel
theorem dX12_mend_23 : decode cX12_mend 23 = .ok (.istore 4, 2) := by decide +kernel
theorem dX12_mend_25 : decode cX12_mend 25 = .ok (.iconst 0, 1) := by decide +kernel
theorem dX12_mend_26 : decode cX12_mend 26 = .ok (.istore 5, 2) := by decide +kernel
theorem dX12_mend_28 : decode cX12_mend 28 = .ok (.iload 5, 2) := by decide +kernel
theorem dX12_mend_30 : decode cX12_mend 30 = .ok (.aload_n 0, 1) := by decide +kernel
theorem dX12_mend_31 : decode cX12_mend 31 = .ok (.getfield 140, 3) := by decide +kernel
theorem dX12_mend_34 : decode cX12_mend 34 = .ok (.if_icmp .ge 55, 3) := by decide +kernel
theorem dX12_mend_37 : decode cX12_mend 37 = .ok (.aload_n 0, 1) := by decide +kernel
theorem dX12_mend_38 : decode cX12_mend 38 = .ok (.getfield 28, 3) := by decide +kernel
theorem dX12_mend_41 : decode cX12_mend 41 = .ok (.iload 5, 2) := by decide +kernel
theorem dX12_mend_43 : decode cX12_mend 43 = .ok (.baload, 1) := by decide +kernel
theorem dX12_mend_44 : decode cX12_mend 44 = .ok (.ifCond .ne 35, 3) := by decide +kernel
theorem dX12_mend_47 : decode cX12_mend 47 = .ok (.aload_n 0, 1) := by decide +kernel
theorem dX12_mend_48 : decode cX12_mend 48 = .ok (.getfield 68, 3) := by decide +kernel
theorem dX12_mend_51 : decode cX12_mend 51 = .ok (.bipush 40, 2) := by decide +kernel
theorem dX12_mend_53 : decode cX12_mend 53 = .ok (.iload 5, 2) := by decide +kernel
theorem dX12_mend_55 : decode cX12_mend 55 = .ok (.imul, 1) := by decide +kernel
theorem dX12_mend_56 : decode cX12_mend 56 = .ok (.iload_n 3, 1) := by decide +kernel
theorem dX12_mend_57 : decode cX12_mend 57 = .ok (.iadd, 1) := by decide +kernel
theorem dX12_mend_58 : decode cX12_mend 58 = .ok (.iaload, 1) := by decide +kernel
theorem dX12_mend_59 : decode cX12_mend 59 = .ok (.iload 4, 2) := by decide +kernel
theorem dX12_mend_61 : decode cX12_mend 61 = .ok (.if_icmp .le 18, 3) := by decide +kernel
theorem dX12_mend_64 : decode cX12_mend 64 = .ok (.aload_n 0, 1) := by decide +kernel
theorem dX12_mend_65 : decode cX12_mend 65 = .ok (.getfield 68, 3) := by decide +kernel
theorem dX12_mend_68 : decode cX12_mend 68 = .ok (.bipush 40, 2) := by decide +kernel
theorem dX12_mend_70 : decode cX12_mend 70 = .ok (.iload 5, 2) := by decide +kernel
theorem dX12_mend_72 : decode cX12_mend 72 = .ok (.imul, 1) := by decide +kernel
theorem dX12_mend_73 : decode cX12_mend 73 = .ok (.iload_n 3, 1) := by decide +kernel
theorem dX12_mend_74 : decode cX12_mend 74 = .ok (.iadd, 1) := by decide +kernel
theorem dX12_mend_75 : decode cX12_mend 75 = .ok (.iaload, 1) := by decide +kernel
theorem dX12_mend_76 : decode cX12_mend 76 = .ok (.goto 5, 3) := by decide +kernel
theorem dX12_mend_79 : decode cX12_mend 79 = .ok (.iload 4, 2) := by decide +kernel
theorem dX12_mend_81 : decode cX12_mend 81 = .ok (.istore 4, 2) := by decide +kernel
theorem dX12_mend_83 : decode cX12_mend 83 = .ok (.iinc 5 1, 3) := by decide +kernel
theorem dX12_mend_86 : decode cX12_mend 86 = .ok (.goto (-58), 3) := by decide +kernel
theorem dX12_mend_89 : decode cX12_mend 89 = .ok (.aload_n 0, 1) := by decide +kernel
theorem dX12_mend_90 : decode cX12_mend 90 = .ok (.iload_n 1, 1) := by decide +kernel
theorem dX12_mend_91 : decode cX12_mend 91 = .ok (.iload_n 3, 1) := by decide +kernel
theorem dX12_mend_92 : decode cX12_mend 92 = .ok (.invokevirtual 269, 3) := by decide +kernel
theorem dX12_mend_95 : decode cX12_mend 95 = .ok (.iconst 0, 1) := by decide +kernel
theorem dX12_mend_96 : decode cX12_mend 96 = .ok (.istore 5, 2) := by decide +kernel
theorem dX12_mend_98 : decode cX12_mend 98 = .ok (.iload 5, 2) := by decide +kernel
theorem dX12_mend_100 : decode cX12_mend 100 = .ok (.aload_n 0, 1) := by decide +kernel
theorem dX12_mend_101 : decode cX12_mend 101 = .ok (.getfield 250, 3) := by decide +kernel
theorem dX12_mend_104 : decode cX12_mend 104 = .ok (.if_icmp .ge 76, 3) := by decide +kernel
theorem dX12_mend_107 : decode cX12_mend 107 = .ok (.bipush 40, 2) := by decide +kernel
theorem dX12_mend_109 : decode cX12_mend 109 = .ok (.aload_n 0, 1) := by decide +kernel
theorem dX12_mend_110 : decode cX12_mend 110 = .ok (.getfield 121, 3) := by decide +kernel
theorem dX12_mend_113 : decode cX12_mend 113 = .ok (.iload 5, 2) := by decide +kernel
theorem dX12_mend_115 : decode cX12_mend 115 = .ok (.iaload, 1) := by decide +kernel
theorem dX12_mend_116 : decode cX12_mend 116 = .ok (.imul, 1) := by decide +kernel
theorem dX12_mend_117 : decode cX12_mend 117 = .ok (.iload_n 3, 1) := by decide +kernel
theorem dX12_mend_118 : decode cX12_mend 118 = .ok (.iadd, 1) := by decide +kernel
theorem dX12_mend_119 : decode cX12_mend 119 = .ok (.istore 6, 2) := by decide +kernel
theorem dX12_mend_121 : decode cX12_mend 121 = .ok (.aload_n 0, 1) := by decide +kernel
theorem dX12_mend_122 : decode cX12_mend 122 = .ok (.aload_n 0, 1) := by decide +kernel
theorem dX12_mend_123 : decode cX12_mend 123 = .ok (.getfield 121, 3) := by decide +kernel
theorem dX12_mend_126 : decode cX12_mend 126 = .ok (.iload 5, 2) := by decide +kernel
theorem dX12_mend_128 : decode cX12_mend 128 = .ok (.iaload, 1) := by decide +kernel
theorem dX12_mend_129 : decode cX12_mend 129 = .ok (.invokevirtual 287, 3) := by decide +kernel
theorem dX12_mend_132 : decode cX12_mend 132 = .ok (.ifCond .eq 42, 3) := by decide +kernel
theorem dX12_mend_135 : decode cX12_mend 135 = .ok (.aload_n 0, 1) := by decide +kernel
theorem dX12_mend_136 : decode cX12_mend 136 = .ok (.getfield 68, 3) := by decide +kernel
theorem dX12_mend_139 : decode cX12_mend 139 = .ok (.iload 6, 2) := by decide +kernel
theorem dX12_mend_141 : decode cX12_mend 141 = .ok (.iaload, 1) := by decide +kernel
theorem dX12_mend_142 : decode cX12_mend 142 = .ok (.iload 4, 2) := by decide +kernel
theorem dX12_mend_144 : decode cX12_mend 144 = .ok (.if_icmp .ge 30, 3) := by decide +kernel
theorem dX12_mend_147 : decode cX12_mend 147 = .ok (.aload_n 0, 1) := by decide +kernel
theorem dX12_mend_148 : decode cX12_mend 148 = .ok (.aload_n 0, 1) := by decide +kernel
theorem dX12_mend_149 : decode cX12_mend 149 = .ok (.getfield 121, 3) := by decide +kernel
theorem dX12_mend_152 : decode cX12_mend 152 = .ok (.iload 5, 2) := by decide +kernel
theorem dX12_mend_154 : decode cX12_mend 154 = .ok (.iaload, 1) := by decide +kernel
theorem dX12_mend_155 : decode cX12_mend 155 = .ok (.iload_n 3, 1) := by decide +kernel
theorem dX12_mend_156 : decode cX12_mend 156 = .ok (.invokevirtual 297, 3) := by decide +kernel
theorem dX12_mend_159 : decode cX12_mend 159 = .ok (.ifCond .eq 15, 3) := by decide +kernel
theorem dX12_mend_162 : decode cX12_mend 162 = .ok (.aload_n 0, 1) := by decide +kernel
theorem dX12_mend_163 : decode cX12_mend 163 = .ok (.getfield 68, 3) := by decide +kernel
theorem dX12_mend_166 : decode cX12_mend 166 = .ok (.iload 6, 2) := by decide +kernel
theorem dX12_mend_168 : decode cX12_mend 168 = .ok (.iload 4, 2) := by decide +kernel
theorem dX12_mend_170 : decode cX12_mend 170 = .ok (.iastore, 1) := by decide +kernel
theorem dX12_mend_171 : decode cX12_mend 171 = .ok (.iinc 2 1, 3) := by decide +kernel
theorem dX12_mend_174 : decode cX12_mend 174 = .ok (.iinc 5 1, 3) := by decide +kernel
theorem dX12_mend_177 : decode cX12_mend 177 = .ok (.goto (-79), 3) := by decide +kernel
theorem dX12_mend_180 : decode cX12_mend 180 = .ok (.iinc 3 1, 3) := by decide +kernel
theorem dX12_mend_183 : decode cX12_mend 183 = .ok (.goto (-169), 3) := by decide +kernel
theorem dX12_mend_186 : decode cX12_mend 186 = .ok (.iload_n 2, 1) := by decide +kernel
theorem dX12_mend_187 : decode cX12_mend 187 = .ok (.ireturn, 1) := by decide +kernel
theorem dX12_leafOf_0 : decode cX12_leafOf 0 = .ok (.iconst 0, 1) := by decide +kernel
theorem dX12_leafOf_1 : decode cX12_leafOf 1 = .ok (.istore_n 3, 1) := by decide +kernel
theorem dX12_leafOf_2 : decode cX12_leafOf 2 = .ok (.iload_n 2, 1) := by decide +kernel
theorem dX12_leafOf_3 : decode cX12_leafOf 3 = .ok (.istore 4, 2) := by decide +kernel
theorem dX12_leafOf_5 : decode cX12_leafOf 5 = .ok (.iload 4, 2) := by decide +kernel
theorem dX12_leafOf_7 : decode cX12_leafOf 7 = .ok (.aload_n 0, 1) := by decide +kernel
theorem dX12_leafOf_8 : decode cX12_leafOf 8 = .ok (.getfield 133, 3) := by decide +kernel
theorem dX12_leafOf_11 : decode cX12_leafOf 11 = .ok (.if_icmp .ge 29, 3) := by decide +kernel
theorem dX12_leafOf_14 : decode cX12_leafOf 14 = .ok (.iload_n 3, 1) := by decide +kernel
theorem dX12_leafOf_15 : decode cX12_leafOf 15 = .ok (.iload 4, 2) := by decide +kernel
theorem dX12_leafOf_17 : decode cX12_leafOf 17 = .ok (.iconst 1, 1) := by decide +kernel
theorem dX12_leafOf_18 : decode cX12_leafOf 18 = .ok (.iadd, 1) := by decide +kernel
theorem dX12_leafOf_19 : decode cX12_leafOf 19 = .ok (.aload_n 0, 1) := by decide +kernel
theorem dX12_leafOf_20 : decode cX12_leafOf 20 = .ok (.getfield 68, 3) := by decide +kernel
theorem dX12_leafOf_23 : decode cX12_leafOf 23 = .ok (.bipush 40, 2) := by decide +kernel
theorem dX12_leafOf_25 : decode cX12_leafOf 25 = .ok (.iload_n 1, 1) := by decide +kernel
theorem dX12_leafOf_26 : decode cX12_leafOf 26 = .ok (.imul, 1) := by decide +kernel
theorem dX12_leafOf_27 : decode cX12_leafOf 27 = .ok (.iload 4, 2) := by decide +kernel
theorem dX12_leafOf_29 : decode cX12_leafOf 29 = .ok (.iadd, 1) := by decide +kernel
theorem dX12_leafOf_30 : decode cX12_leafOf 30 = .ok (.iaload, 1) := by decide +kernel
theorem dX12_leafOf_31 : decode cX12_leafOf 31 = .ok (.imul, 1) := by decide +kernel
theorem dX12_leafOf_32 : decode cX12_leafOf 32 = .ok (.iadd, 1) := by decide +kernel
theorem dX12_leafOf_33 : decode cX12_leafOf 33 = .ok (.istore_n 3, 1) := by decide +kernel
theorem dX12_leafOf_34 : decode cX12_leafOf 34 = .ok (.iinc 4 8, 3) := by decide +kernel
theorem dX12_leafOf_37 : decode cX12_leafOf 37 = .ok (.goto (-32), 3) := by decide +kernel
theorem dX12_leafOf_40 : decode cX12_leafOf 40 = .ok (.iload_n 3, 1) := by decide +kernel
theorem dX12_leafOf_41 : decode cX12_leafOf 41 = .ok (.ireturn, 1) := by decide +kernel
theorem dX12_areUnlike_0 : decode cX12_areUnlike 0 = .ok (.iconst 0, 1) := by decide +kernel
theorem dX12_areUnlike_1 : decode cX12_areUnlike 1 = .ok (.istore 5, 2) := by decide +kernel
theorem dX12_areUnlike_3 : decode cX12_areUnlike 3 = .ok (.iload_n 3, 1) := by decide +kernel
theorem dX12_areUnlike_4 : decode cX12_areUnlike 4 = .ok (.istore 6, 2) := by decide +kernel
theorem dX12_areUnlike_6 : decode cX12_areUnlike 6 = .ok (.iload 6, 2) := by decide +kernel
theorem dX12_areUnlike_8 : decode cX12_areUnlike 8 = .ok (.iload_n 3, 1) := by decide +kernel
theorem dX12_areUnlike_9 : decode cX12_areUnlike 9 = .ok (.iload 4, 2) := by decide +kernel
theorem dX12_areUnlike_11 : decode cX12_areUnlike 11 = .ok (.iadd, 1) := by decide +kernel
theorem dX12_areUnlike_12 : decode cX12_areUnlike 12 = .ok (.if_icmp .ge 29, 3) := by decide +kernel
theorem dX12_areUnlike_15 : decode cX12_areUnlike 15 = .ok (.iload 5, 2) := by decide +kernel
theorem dX12_areUnlike_17 : decode cX12_areUnlike 17 = .ok (.aload_n 0, 1) := by decide +kernel
theorem dX12_areUnlike_18 : decode cX12_areUnlike 18 = .ok (.iload_n 1, 1) := by decide +kernel
theorem dX12_areUnlike_19 : decode cX12_areUnlike 19 = .ok (.iload 6, 2) := by decide +kernel
theorem dX12_areUnlike_21 : decode cX12_areUnlike 21 = .ok (.invokevirtual 300, 3) := by decide +kernel
theorem dX12_areUnlike_24 : decode cX12_areUnlike 24 = .ok (.aload_n 0, 1) := by decide +kernel
theorem dX12_areUnlike_25 : decode cX12_areUnlike 25 = .ok (.iload_n 2, 1) := by decide +kernel
theorem dX12_areUnlike_26 : decode cX12_areUnlike 26 = .ok (.iload 6, 2) := by decide +kernel
theorem dX12_areUnlike_28 : decode cX12_areUnlike 28 = .ok (.invokevirtual 300, 3) := by decide +kernel
theorem dX12_areUnlike_31 : decode cX12_areUnlike 31 = .ok (.isub, 1) := by decide +kernel
theorem dX12_areUnlike_32 : decode cX12_areUnlike 32 = .ok (.iadd, 1) := by decide +kernel
theorem dX12_areUnlike_33 : decode cX12_areUnlike 33 = .ok (.istore 5, 2) := by decide +kernel
theorem dX12_areUnlike_35 : decode cX12_areUnlike 35 = .ok (.iinc 6 1, 3) := by decide +kernel
theorem dX12_areUnlike_38 : decode cX12_areUnlike 38 = .ok (.goto (-32), 3) := by decide +kernel
theorem dX12_areUnlike_41 : decode cX12_areUnlike 41 = .ok (.iload 5, 2) := by decide +kernel
theorem dX12_areUnlike_43 : decode cX12_areUnlike 43 = .ok (.ifCond .eq 7, 3) := by decide +kernel
theorem dX12_areUnlike_46 : decode cX12_areUnlike 46 = .ok (.iconst 1, 1) := by decide +kernel
theorem dX12_areUnlike_47 : decode cX12_areUnlike 47 = .ok (.goto 4, 3) := by decide +kernel
theorem dX12_areUnlike_50 : decode cX12_areUnlike 50 = .ok (.iconst 0, 1) := by decide +kernel
theorem dX12_areUnlike_51 : decode cX12_areUnlike 51 = .ok (.ireturn, 1) := by decide +kernel
theorem dX12_wordsBelow_0 : decode cX12_wordsBelow 0 = .ok (.iload 4, 2) := by decide +kernel
theorem dX12_wordsBelow_2 : decode cX12_wordsBelow 2 = .ok (.iconst 1, 1) := by decide +kernel
theorem dX12_wordsBelow_3 : decode cX12_wordsBelow 3 = .ok (.if_icmp .eq 15, 3) := by decide +kernel
theorem dX12_wordsBelow_6 : decode cX12_wordsBelow 6 = .ok (.aload_n 0, 1) := by decide +kernel
theorem dX12_wordsBelow_7 : decode cX12_wordsBelow 7 = .ok (.iload_n 1, 1) := by decide +kernel
theorem dX12_wordsBelow_8 : decode cX12_wordsBelow 8 = .ok (.iload_n 2, 1) := by decide +kernel
theorem dX12_wordsBelow_9 : decode cX12_wordsBelow 9 = .ok (.iload_n 3, 1) := by decide +kernel
theorem dX12_wordsBelow_10 : decode cX12_wordsBelow 10 = .ok (.iload 4, 2) := by decide +kernel
theorem dX12_wordsBelow_12 : decode cX12_wordsBelow 12 = .ok (.invokevirtual 303, 3) := by decide +kernel
theorem dX12_wordsBelow_15 : decode cX12_wordsBelow 15 = .ok (.ifCond .ne 5, 3) := by decide +kernel
theorem dX12_wordsBelow_18 : decode cX12_wordsBelow 18 = .ok (.iconst 0, 1) := by decide +kernel
theorem dX12_wordsBelow_19 : decode cX12_wordsBelow 19 = .ok (.ireturn, 1) := by decide +kernel
theorem dX12_wordsBelow_20 : decode cX12_wordsBelow 20 = .ok (.iconst 2, 1) := by decide +kernel
theorem dX12_wordsBelow_21 : decode cX12_wordsBelow 21 = .ok (.aload_n 0, 1) := by decide +kernel
theorem dX12_wordsBelow_22 : decode cX12_wordsBelow 22 = .ok (.iload_n 1, 1) := by decide +kernel
theorem dX12_wordsBelow_23 : decode cX12_wordsBelow 23 = .ok (.iload_n 2, 1) := by decide +kernel
theorem dX12_wordsBelow_24 : decode cX12_wordsBelow 24 = .ok (.iload_n 3, 1) := by decide +kernel
theorem dX12_wordsBelow_25 : decode cX12_wordsBelow 25 = .ok (.iload 4, 2) := by decide +kernel
theorem dX12_wordsBelow_27 : decode cX12_wordsBelow 27 = .ok (.iconst 2, 1) := by decide +kernel
theorem dX12_wordsBelow_28 : decode cX12_wordsBelow 28 = .ok (.idiv, 1) := by decide +kernel
theorem dX12_wordsBelow_29 : decode cX12_wordsBelow 29 = .ok (.invokevirtual 307, 3) := by decide +kernel
theorem dX12_wordsBelow_32 : decode cX12_wordsBelow 32 = .ok (.iadd, 1) := by decide +kernel
theorem dX12_wordsBelow_33 : decode cX12_wordsBelow 33 = .ok (.aload_n 0, 1) := by decide +kernel
theorem dX12_wordsBelow_34 : decode cX12_wordsBelow 34 = .ok (.iload_n 1, 1) := by decide +kernel
theorem dX12_wordsBelow_35 : decode cX12_wordsBelow 35 = .ok (.iload_n 2, 1) := by decide +kernel
theorem dX12_wordsBelow_36 : decode cX12_wordsBelow 36 = .ok (.iload_n 3, 1) := by decide +kernel
theorem dX12_wordsBelow_37 : decode cX12_wordsBelow 37 = .ok (.iload 4, 2) := by decide +kernel
theorem dX12_wordsBelow_39 : decode cX12_wordsBelow 39 = .ok (.iconst 2, 1) := by decide +kernel
theorem dX12_wordsBelow_40 : decode cX12_wordsBelow 40 = .ok (.idiv, 1) := by decide +kernel
theorem dX12_wordsBelow_41 : decode cX12_wordsBelow 41 = .ok (.iadd, 1) := by decide +kernel
theorem dX12_wordsBelow_42 : decode cX12_wordsBelow 42 = .ok (.iload 4, 2) := by decide +kernel
theorem dX12_wordsBelow_44 : decode cX12_wordsBelow 44 = .ok (.iconst 2, 1) := by decide +kernel
theorem dX12_wordsBelow_45 : decode cX12_wordsBelow 45 = .ok (.idiv, 1) := by decide +kernel
theorem dX12_wordsBelow_46 : decode cX12_wordsBelow 46 = .ok (.invokevirtual 307, 3) := by decide +kernel
theorem dX12_wordsBelow_49 : decode cX12_wordsBelow 49 = .ok (.iadd, 1) := by decide +kernel
theorem dX12_wordsBelow_50 : decode cX12_wordsBelow 50 = .ok (.ireturn, 1) := by decide +kernel
theorem dX12_trees_8 : decode cX12_trees 8 = .ok (.aload_n 0, 1) := by decide +kernel
theorem dX12_trees_9 : decode cX12_trees 9 = .ok (.iload_n 2, 1) := by decide +kernel
theorem dX12_trees_10 : decode cX12_trees 10 = .ok (.invokevirtual 166, 3) := by decide +kernel
theorem dX12_trees_13 : decode cX12_trees 13 = .ok (.ifCond .eq 17, 3) := by decide +kernel
theorem dX12_trees_16 : decode cX12_trees 16 = .ok (.iload_n 1, 1) := by decide +kernel
theorem dX12_trees_17 : decode cX12_trees 17 = .ok (.iload_n 2, 1) := by decide +kernel
theorem dX12_trees_18 : decode cX12_trees 18 = .ok (.if_icmp .eq 12, 3) := by decide +kernel
theorem dX12_trees_21 : decode cX12_trees 21 = .ok (.iload_n 3, 1) := by decide +kernel
theorem dX12_trees_22 : decode cX12_trees 22 = .ok (.iconst 0, 1) := by decide +kernel
theorem dX12_trees_23 : decode cX12_trees 23 = .ok (.iconst 1, 1) := by decide +kernel
theorem dX12_trees_24 : decode cX12_trees 24 = .ok (.invokestatic 136, 3) := by decide +kernel
theorem dX12_trees_27 : decode cX12_trees 27 = .ok (.ifCond .ne 5, 3) := by decide +kernel
theorem dX12_trees_32 : decode cX12_trees 32 = .ok (.iload_n 3, 1) := by decide +kernel
theorem dX12_trees_33 : decode cX12_trees 33 = .ok (.ifCond .ne 15, 3) := by decide +kernel
theorem dX12_trees_36 : decode cX12_trees 36 = .ok (.iconst 1, 1) := by decide +kernel
theorem dX12_trees_37 : decode cX12_trees 37 = .ok (.aload_n 0, 1) := by decide +kernel
theorem dX12_trees_38 : decode cX12_trees 38 = .ok (.iload_n 1, 1) := by decide +kernel
theorem dX12_trees_39 : decode cX12_trees 39 = .ok (.iload_n 2, 1) := by decide +kernel
theorem dX12_trees_40 : decode cX12_trees 40 = .ok (.iconst 0, 1) := by decide +kernel
theorem dX12_trees_41 : decode cX12_trees 41 = .ok (.bipush 8, 2) := by decide +kernel
theorem dX12_trees_43 : decode cX12_trees 43 = .ok (.invokevirtual 307, 3) := by decide +kernel
theorem dX12_trees_46 : decode cX12_trees 46 = .ok (.iadd, 1) := by decide +kernel
theorem dX12_trees_47 : decode cX12_trees 47 = .ok (.ireturn, 1) := by decide +kernel
theorem dX12_trees_48 : decode cX12_trees 48 = .ok (.iconst 0, 1) := by decide +kernel
theorem dX12_trees_49 : decode cX12_trees 49 = .ok (.istore 4, 2) := by decide +kernel
theorem dX12_trees_51 : decode cX12_trees 51 = .ok (.iconst 0, 1) := by decide +kernel
theorem dX12_trees_52 : decode cX12_trees 52 = .ok (.istore 5, 2) := by decide +kernel
theorem dX12_trees_54 : decode cX12_trees 54 = .ok (.iload 5, 2) := by decide +kernel
theorem dX12_trees_56 : decode cX12_trees 56 = .ok (.bipush 8, 2) := by decide +kernel
theorem dX12_trees_58 : decode cX12_trees 58 = .ok (.if_icmp .ge 31, 3) := by decide +kernel
theorem dX12_trees_61 : decode cX12_trees 61 = .ok (.iload 4, 2) := by decide +kernel
theorem dX12_trees_63 : decode cX12_trees 63 = .ok (.aload_n 0, 1) := by decide +kernel
theorem dX12_trees_64 : decode cX12_trees 64 = .ok (.iload_n 1, 1) := by decide +kernel
theorem dX12_trees_65 : decode cX12_trees 65 = .ok (.iload_n 2, 1) := by decide +kernel
theorem dX12_trees_66 : decode cX12_trees 66 = .ok (.iload 5, 2) := by decide +kernel
theorem dX12_trees_68 : decode cX12_trees 68 = .ok (.iconst 1, 1) := by decide +kernel
theorem dX12_trees_69 : decode cX12_trees 69 = .ok (.invokevirtual 303, 3) := by decide +kernel
theorem dX12_trees_72 : decode cX12_trees 72 = .ok (.ifCond .eq 7, 3) := by decide +kernel
theorem dX12_trees_75 : decode cX12_trees 75 = .ok (.iconst 1, 1) := by decide +kernel
theorem dX12_trees_76 : decode cX12_trees 76 = .ok (.goto 4, 3) := by decide +kernel
theorem dX12_trees_79 : decode cX12_trees 79 = .ok (.iconst 0, 1) := by decide +kernel
theorem dX12_trees_80 : decode cX12_trees 80 = .ok (.iadd, 1) := by decide +kernel
theorem dX12_trees_81 : decode cX12_trees 81 = .ok (.istore 4, 2) := by decide +kernel
theorem dX12_trees_83 : decode cX12_trees 83 = .ok (.iinc 5 1, 3) := by decide +kernel
theorem dX12_trees_86 : decode cX12_trees 86 = .ok (.goto (-32), 3) := by decide +kernel
theorem dX12_trees_89 : decode cX12_trees 89 = .ok (.iload 4, 2) := by decide +kernel
theorem dX12_trees_91 : decode cX12_trees 91 = .ok (.ireturn, 1) := by decide +kernel
theorem dX12_noon_8 : decode cX12_noon 8 = .ok (.iload_n 2, 1) := by decide +kernel
theorem dX12_noon_9 : decode cX12_noon 9 = .ok (.iconst 0, 1) := by decide +kernel
theorem dX12_noon_10 : decode cX12_noon 10 = .ok (.sipush 9999, 3) := by decide +kernel
theorem dX12_noon_13 : decode cX12_noon 13 = .ok (.invokestatic 136, 3) := by decide +kernel
theorem dX12_noon_16 : decode cX12_noon 16 = .ok (.ifCond .eq 14, 3) := by decide +kernel
theorem dX12_noon_19 : decode cX12_noon 19 = .ok (.iload_n 3, 1) := by decide +kernel
theorem dX12_noon_20 : decode cX12_noon 20 = .ok (.iconst 0, 1) := by decide +kernel
theorem dX12_noon_21 : decode cX12_noon 21 = .ok (.sipush 9999, 3) := by decide +kernel
theorem dX12_noon_24 : decode cX12_noon 24 = .ok (.invokestatic 136, 3) := by decide +kernel
theorem dX12_noon_27 : decode cX12_noon 27 = .ok (.ifCond .ne 5, 3) := by decide +kernel
theorem dX12_noon_32 : decode cX12_noon 32 = .ok (.aload_n 0, 1) := by decide +kernel
theorem dX12_noon_33 : decode cX12_noon 33 = .ok (.getfield 32, 3) := by decide +kernel
theorem dX12_noon_36 : decode cX12_noon 36 = .ok (.iload_n 1, 1) := by decide +kernel
theorem dX12_noon_37 : decode cX12_noon 37 = .ok (.iaload, 1) := by decide +kernel
theorem dX12_noon_38 : decode cX12_noon 38 = .ok (.invokestatic 284, 3) := by decide +kernel
theorem dX12_noon_41 : decode cX12_noon 41 = .ok (.istore 4, 2) := by decide +kernel
theorem dX12_noon_43 : decode cX12_noon 43 = .ok (.iconst 1, 1) := by decide +kernel
theorem dX12_noon_44 : decode cX12_noon 44 = .ok (.istore 5, 2) := by decide +kernel
theorem dX12_noon_46 : decode cX12_noon 46 = .ok (.iload 5, 2) := by decide +kernel
theorem dX12_noon_48 : decode cX12_noon 48 = .ok (.iload 4, 2) := by decide +kernel
theorem dX12_noon_50 : decode cX12_noon 50 = .ok (.if_icmp .gt 25, 3) := by decide +kernel
theorem dX12_noon_53 : decode cX12_noon 53 = .ok (.iload_n 2, 1) := by decide +kernel
theorem dX12_noon_54 : decode cX12_noon 54 = .ok (.iload 5, 2) := by decide +kernel
theorem dX12_noon_56 : decode cX12_noon 56 = .ok (.iadd, 1) := by decide +kernel
theorem dX12_noon_57 : decode cX12_noon 57 = .ok (.iconst 1, 1) := by decide +kernel
theorem dX12_noon_58 : decode cX12_noon 58 = .ok (.isub, 1) := by decide +kernel
theorem dX12_noon_59 : decode cX12_noon 59 = .ok (.iload 5, 2) := by decide +kernel
theorem dX12_noon_61 : decode cX12_noon 61 = .ok (.idiv, 1) := by decide +kernel
theorem dX12_noon_62 : decode cX12_noon 62 = .ok (.iload_n 3, 1) := by decide +kernel
theorem dX12_noon_63 : decode cX12_noon 63 = .ok (.if_icmp .gt 6, 3) := by decide +kernel
theorem dX12_noon_66 : decode cX12_noon 66 = .ok (.iload 5, 2) := by decide +kernel
theorem dX12_noon_68 : decode cX12_noon 68 = .ok (.ireturn, 1) := by decide +kernel
theorem dX12_noon_69 : decode cX12_noon 69 = .ok (.iinc 5 1, 3) := by decide +kernel
theorem dX12_noon_72 : decode cX12_noon 72 = .ok (.goto (-26), 3) := by decide +kernel
theorem dX12_noon_75 : decode cX12_noon 75 = .ok (.bipush (-2), 2) := by decide +kernel
theorem dX12_noon_77 : decode cX12_noon 77 = .ok (.ireturn, 1) := by decide +kernel
theorem dX12_lies_8 : decode cX12_lies 8 = .ok (.iload_n 2, 1) := by decide +kernel
theorem dX12_lies_9 : decode cX12_lies 9 = .ok (.iconst 0, 1) := by decide +kernel
theorem dX12_lies_10 : decode cX12_lies 10 = .ok (.bipush 99, 2) := by decide +kernel
theorem dX12_lies_12 : decode cX12_lies 12 = .ok (.invokestatic 136, 3) := by decide +kernel
theorem dX12_lies_15 : decode cX12_lies 15 = .ok (.ifCond .eq 28, 3) := by decide +kernel
theorem dX12_lies_18 : decode cX12_lies 18 = .ok (.iload_n 3, 1) := by decide +kernel
theorem dX12_lies_19 : decode cX12_lies 19 = .ok (.iconst 1, 1) := by decide +kernel
theorem dX12_lies_20 : decode cX12_lies 20 = .ok (.bipush 99, 2) := by decide +kernel
theorem dX12_lies_22 : decode cX12_lies 22 = .ok (.invokestatic 136, 3) := by decide +kernel
theorem dX12_lies_25 : decode cX12_lies 25 = .ok (.ifCond .eq 18, 3) := by decide +kernel
theorem dX12_lies_28 : decode cX12_lies 28 = .ok (.iload_n 2, 1) := by decide +kernel
theorem dX12_lies_29 : decode cX12_lies 29 = .ok (.iload_n 3, 1) := by decide +kernel
theorem dX12_lies_30 : decode cX12_lies 30 = .ok (.if_icmp .gt 13, 3) := by decide +kernel
theorem dX12_lies_33 : decode cX12_lies 33 = .ok (.iload 4, 2) := by decide +kernel
theorem dX12_lies_35 : decode cX12_lies 35 = .ok (.iconst 0, 1) := by decide +kernel
theorem dX12_lies_36 : decode cX12_lies 36 = .ok (.iconst 1, 1) := by decide +kernel
theorem dX12_lies_37 : decode cX12_lies 37 = .ok (.invokestatic 136, 3) := by decide +kernel
theorem dX12_lies_40 : decode cX12_lies 40 = .ok (.ifCond .ne 5, 3) := by decide +kernel
theorem dX12_lies_45 : decode cX12_lies 45 = .ok (.aload_n 0, 1) := by decide +kernel
theorem dX12_lies_46 : decode cX12_lies 46 = .ok (.getfield 19, 3) := by decide +kernel
theorem dX12_lies_49 : decode cX12_lies 49 = .ok (.iload_n 1, 1) := by decide +kernel
theorem dX12_lies_50 : decode cX12_lies 50 = .ok (.iaload, 1) := by decide +kernel
theorem dX12_lies_51 : decode cX12_lies 51 = .ok (.iload_n 3, 1) := by decide +kernel
theorem dX12_lies_52 : decode cX12_lies 52 = .ok (.iload_n 2, 1) := by decide +kernel
theorem dX12_lies_53 : decode cX12_lies 53 = .ok (.isub, 1) := by decide +kernel
theorem dX12_lies_54 : decode cX12_lies 54 = .ok (.imul, 1) := by decide +kernel
theorem dX12_lies_55 : decode cX12_lies 55 = .ok (.iload_n 3, 1) := by decide +kernel
theorem dX12_lies_56 : decode cX12_lies 56 = .ok (.iadd, 1) := by decide +kernel
theorem dX12_lies_57 : decode cX12_lies 57 = .ok (.iconst 1, 1) := by decide +kernel
theorem dX12_lies_58 : decode cX12_lies 58 = .ok (.isub, 1) := by decide +kernel
theorem dX12_lies_59 : decode cX12_lies 59 = .ok (.iload_n 3, 1) := by decide +kernel
theorem dX12_lies_60 : decode cX12_lies 60 = .ok (.idiv, 1) := by decide +kernel
theorem dX12_lies_61 : decode cX12_lies 61 = .ok (.istore 5, 2) := by decide +kernel
theorem dX12_lies_63 : decode cX12_lies 63 = .ok (.iload 5, 2) := by decide +kernel
theorem dX12_lies_65 : decode cX12_lies 65 = .ok (.iconst 1, 1) := by decide +kernel
theorem dX12_lies_66 : decode cX12_lies 66 = .ok (.if_icmp .ge 7, 3) := by decide +kernel
theorem dX12_lies_69 : decode cX12_lies 69 = .ok (.iconst 1, 1) := by decide +kernel
theorem dX12_lies_70 : decode cX12_lies 70 = .ok (.goto 5, 3) := by decide +kernel
theorem dX12_lies_73 : decode cX12_lies 73 = .ok (.iload 5, 2) := by decide +kernel
theorem dX12_lies_75 : decode cX12_lies 75 = .ok (.istore 5, 2) := by decide +kernel
theorem dX12_lies_77 : decode cX12_lies 77 = .ok (.iload 4, 2) := by decide +kernel
theorem dX12_lies_79 : decode cX12_lies 79 = .ok (.ifCond .ne 8, 3) := by decide +kernel
theorem dX12_lies_82 : decode cX12_lies 82 = .ok (.iload 5, 2) := by decide +kernel
theorem dX12_lies_84 : decode cX12_lies 84 = .ok (.goto 14, 3) := by decide +kernel
theorem dX12_lies_87 : decode cX12_lies 87 = .ok (.iconst 4, 1) := by decide +kernel
theorem dX12_lies_88 : decode cX12_lies 88 = .ok (.aload_n 0, 1) := by decide +kernel
theorem dX12_lies_89 : decode cX12_lies 89 = .ok (.getfield 19, 3) := by decide +kernel
theorem dX12_lies_92 : decode cX12_lies 92 = .ok (.iload_n 1, 1) := by decide +kernel
theorem dX12_lies_93 : decode cX12_lies 93 = .ok (.iaload, 1) := by decide +kernel
theorem dX12_lies_94 : decode cX12_lies 94 = .ok (.iload 5, 2) := by decide +kernel
theorem dX12_lies_96 : decode cX12_lies 96 = .ok (.isub, 1) := by decide +kernel
theorem dX12_lies_97 : decode cX12_lies 97 = .ok (.imul, 1) := by decide +kernel
theorem dX12_lies_98 : decode cX12_lies 98 = .ok (.ireturn, 1) := by decide +kernel
theorem dX12_isComing_0 : decode cX12_isComing 0 = .ok (.iconst 0, 1) := by decide +kernel
theorem dX12_isComing_1 : decode cX12_isComing 1 = .ok (.istore_n 2, 1) := by decide +kernel
theorem dX12_isComing_2 : decode cX12_isComing 2 = .ok (.iload_n 2, 1) := by decide +kernel
theorem dX12_isComing_3 : decode cX12_isComing 3 = .ok (.aload_n 0, 1) := by decide +kernel
theorem dX12_isComing_4 : decode cX12_isComing 4 = .ok (.getfield 310, 3) := by decide +kernel
theorem dX12_isComing_7 : decode cX12_isComing 7 = .ok (.if_icmp .ge 21, 3) := by decide +kernel
theorem dX12_isComing_10 : decode cX12_isComing 10 = .ok (.aload_n 0, 1) := by decide +kernel
theorem dX12_isComing_11 : decode cX12_isComing 11 = .ok (.getfield 86, 3) := by decide +kernel
theorem dX12_isComing_14 : decode cX12_isComing 14 = .ok (.iload_n 2, 1) := by decide +kernel
theorem dX12_isComing_15 : decode cX12_isComing 15 = .ok (.iaload, 1) := by decide +kernel
theorem dX12_isComing_16 : decode cX12_isComing 16 = .ok (.iload_n 1, 1) := by decide +kernel
theorem dX12_isComing_17 : decode cX12_isComing 17 = .ok (.if_icmp .ne 5, 3) := by decide +kernel
theorem dX12_isComing_20 : decode cX12_isComing 20 = .ok (.iconst 1, 1) := by decide +kernel
theorem dX12_isComing_21 : decode cX12_isComing 21 = .ok (.ireturn, 1) := by decide +kernel
theorem dX12_isComing_22 : decode cX12_isComing 22 = .ok (.iinc 2 1, 3) := by decide +kernel
theorem dX12_isComing_25 : decode cX12_isComing 25 = .ok (.goto (-23), 3) := by decide +kernel
theorem dX12_isComing_28 : decode cX12_isComing 28 = .ok (.iconst 0, 1) := by decide +kernel
theorem dX12_isComing_29 : decode cX12_isComing 29 = .ok (.ireturn, 1) := by decide +kernel
theorem dX12_comes_8 : decode cX12_comes 8 = .ok (.aload_n 0, 1) := by decide +kernel
theorem dX12_comes_9 : decode cX12_comes 9 = .ok (.iload_n 1, 1) := by decide +kernel
theorem dX12_comes_10 : decode cX12_comes 10 = .ok (.invokevirtual 313, 3) := by decide +kernel
theorem dX12_comes_13 : decode cX12_comes 13 = .ok (.ifCond .eq 5, 3) := by decide +kernel
theorem dX12_comes_18 : decode cX12_comes 18 = .ok (.aload_n 0, 1) := by decide +kernel
theorem dX12_comes_19 : decode cX12_comes 19 = .ok (.getfield 310, 3) := by decide +kernel
theorem dX12_comes_22 : decode cX12_comes 22 = .ok (.iconst 5, 1) := by decide +kernel
theorem dX12_comes_23 : decode cX12_comes 23 = .ok (.if_icmp .ne 6, 3) := by decide +kernel
theorem dX12_comes_26 : decode cX12_comes 26 = .ok (.bipush (-3), 2) := by decide +kernel
theorem dX12_comes_28 : decode cX12_comes 28 = .ok (.ireturn, 1) := by decide +kernel
theorem dX12_comes_29 : decode cX12_comes 29 = .ok (.aload_n 0, 1) := by decide +kernel
theorem dX12_comes_30 : decode cX12_comes 30 = .ok (.getfield 86, 3) := by decide +kernel
theorem dX12_comes_33 : decode cX12_comes 33 = .ok (.aload_n 0, 1) := by decide +kernel
theorem dX12_comes_34 : decode cX12_comes 34 = .ok (.getfield 310, 3) := by decide +kernel
theorem dX12_comes_37 : decode cX12_comes 37 = .ok (.iload_n 1, 1) := by decide +kernel
theorem dX12_comes_38 : decode cX12_comes 38 = .ok (.iastore, 1) := by decide +kernel
theorem dX12_comes_39 : decode cX12_comes 39 = .ok (.aload_n 0, 1) := by decide +kernel
theorem dX12_comes_40 : decode cX12_comes 40 = .ok (.dup, 1) := by decide +kernel
theorem dX12_comes_41 : decode cX12_comes 41 = .ok (.getfield 310, 3) := by decide +kernel
theorem dX12_comes_44 : decode cX12_comes 44 = .ok (.iconst 1, 1) := by decide +kernel
theorem dX12_comes_45 : decode cX12_comes 45 = .ok (.iadd, 1) := by decide +kernel
theorem dX12_comes_46 : decode cX12_comes 46 = .ok (.putfield 310, 3) := by decide +kernel
theorem dX12_comes_49 : decode cX12_comes 49 = .ok (.aload_n 0, 1) := by decide +kernel
theorem dX12_comes_50 : decode cX12_comes 50 = .ok (.getfield 310, 3) := by decide +kernel
theorem dX12_comes_53 : decode cX12_comes 53 = .ok (.ireturn, 1) := by decide +kernel
theorem dX12_tries_0 : decode cX12_tries 0 = .ok (.aload_n 0, 1) := by decide +kernel
theorem dX12_tries_1 : decode cX12_tries 1 = .ok (.getfield 32, 3) := by decide +kernel
theorem dX12_tries_4 : decode cX12_tries 4 = .ok (.bipush 10, 2) := by decide +kernel
theorem dX12_tries_6 : decode cX12_tries 6 = .ok (.iload_n 2, 1) := by decide +kernel
theorem dX12_tries_7 : decode cX12_tries 7 = .ok (.iastore, 1) := by decide +kernel
theorem dX12_tries_8 : decode cX12_tries 8 = .ok (.aload_n 0, 1) := by decide +kernel
theorem dX12_tries_9 : decode cX12_tries 9 = .ok (.getfield 35, 3) := by decide +kernel
theorem dX12_tries_12 : decode cX12_tries 12 = .ok (.bipush 10, 2) := by decide +kernel
theorem dX12_tries_14 : decode cX12_tries 14 = .ok (.iload_n 3, 1) := by decide +kernel
theorem dX12_tries_15 : decode cX12_tries 15 = .ok (.iastore, 1) := by decide +kernel
theorem dX12_tries_16 : decode cX12_tries 16 = .ok (.aload_n 0, 1) := by decide +kernel
theorem dX12_tries_17 : decode cX12_tries 17 = .ok (.getfield 47, 3) := by decide +kernel
theorem dX12_tries_20 : decode cX12_tries 20 = .ok (.bipush 10, 2) := by decide +kernel
theorem dX12_tries_22 : decode cX12_tries 22 = .ok (.aload_n 0, 1) := by decide +kernel
theorem dX12_tries_23 : decode cX12_tries 23 = .ok (.getfield 47, 3) := by decide +kernel
theorem dX12_tries_26 : decode cX12_tries 26 = .ok (.iload_n 1, 1) := by decide +kernel
theorem dX12_tries_27 : decode cX12_tries 27 = .ok (.iaload, 1) := by decide +kernel
theorem dX12_tries_28 : decode cX12_tries 28 = .ok (.iastore, 1) := by decide +kernel
theorem dX12_tries_29 : decode cX12_tries 29 = .ok (.iconst 0, 1) := by decide +kernel
theorem dX12_tries_30 : decode cX12_tries 30 = .ok (.istore 4, 2) := by decide +kernel
theorem dX12_tries_32 : decode cX12_tries 32 = .ok (.iload 4, 2) := by decide +kernel
theorem dX12_tries_34 : decode cX12_tries 34 = .ok (.bipush 80, 2) := by decide +kernel
theorem dX12_tries_36 : decode cX12_tries 36 = .ok (.if_icmp .ge 32, 3) := by decide +kernel
theorem dX12_tries_39 : decode cX12_tries 39 = .ok (.aload_n 0, 1) := by decide +kernel
theorem dX12_tries_40 : decode cX12_tries 40 = .ok (.getfield 50, 3) := by decide +kernel
theorem dX12_tries_43 : decode cX12_tries 43 = .ok (.sipush 800, 3) := by decide +kernel
theorem dX12_tries_46 : decode cX12_tries 46 = .ok (.iload 4, 2) := by decide +kernel
theorem dX12_tries_48 : decode cX12_tries 48 = .ok (.iadd, 1) := by decide +kernel
theorem dX12_tries_49 : decode cX12_tries 49 = .ok (.aload_n 0, 1) := by decide +kernel
theorem dX12_tries_50 : decode cX12_tries 50 = .ok (.getfield 50, 3) := by decide +kernel
theorem dX12_tries_53 : decode cX12_tries 53 = .ok (.bipush 80, 2) := by decide +kernel
theorem dX12_tries_55 : decode cX12_tries 55 = .ok (.iload_n 1, 1) := by decide +kernel
theorem dX12_tries_56 : decode cX12_tries 56 = .ok (.imul, 1) := by decide +kernel
theorem dX12_tries_57 : decode cX12_tries 57 = .ok (.iload 4, 2) := by decide +kernel
theorem dX12_tries_59 : decode cX12_tries 59 = .ok (.iadd, 1) := by decide +kernel
theorem dX12_tries_60 : decode cX12_tries 60 = .ok (.iaload, 1) := by decide +kernel
theorem dX12_tries_61 : decode cX12_tries 61 = .ok (.iastore, 1) := by decide +kernel
theorem dX12_tries_62 : decode cX12_tries 62 = .ok (.iinc 4 1, 3) := by decide +kernel
theorem dX12_tries_65 : decode cX12_tries 65 = .ok (.goto (-33), 3) := by decide +kernel
theorem dX12_tries_68 : decode cX12_tries 68 = .ok (.iconst 0, 1) := by decide +kernel
theorem dX12_tries_69 : decode cX12_tries 69 = .ok (.istore 4, 2) := by decide +kernel
theorem dX12_tries_71 : decode cX12_tries 71 = .ok (.iload 4, 2) := by decide +kernel
theorem dX12_tries_73 : decode cX12_tries 73 = .ok (.aload_n 0, 1) := by decide +kernel
theorem dX12_tries_74 : decode cX12_tries 74 = .ok (.getfield 140, 3) := by decide +kernel
theorem dX12_tries_77 : decode cX12_tries 77 = .ok (.if_icmp .ge 92, 3) := by decide +kernel
theorem dX12_tries_80 : decode cX12_tries 80 = .ok (.aload_n 0, 1) := by decide +kernel
theorem dX12_tries_81 : decode cX12_tries 81 = .ok (.getfield 53, 3) := by decide +kernel
theorem dX12_tries_84 : decode cX12_tries 84 = .ok (.bipush 120, 2) := by decide +kernel
theorem dX12_tries_86 : decode cX12_tries 86 = .ok (.iload 4, 2) := by decide +kernel
theorem dX12_tries_88 : decode cX12_tries 88 = .ok (.iadd, 1) := by decide +kernel
theorem dX12_tries_89 : decode cX12_tries 89 = .ok (.aload_n 0, 1) := by decide +kernel
theorem dX12_tries_90 : decode cX12_tries 90 = .ok (.iload_n 1, 1) := by decide +kernel
theorem dX12_tries_91 : decode cX12_tries 91 = .ok (.iload 4, 2) := by decide +kernel
theorem dX12_tries_93 : decode cX12_tries 93 = .ok (.invokevirtual 223, 3) := by decide +kernel
theorem dX12_tries_96 : decode cX12_tries 96 = .ok (.ifCond .eq 18, 3) := by decide +kernel
theorem dX12_tries_99 : decode cX12_tries 99 = .ok (.aload_n 0, 1) := by decide +kernel
theorem dX12_tries_100 : decode cX12_tries 100 = .ok (.getfield 53, 3) := by decide +kernel
theorem dX12_tries_103 : decode cX12_tries 103 = .ok (.bipush 12, 2) := by decide +kernel
theorem dX12_tries_105 : decode cX12_tries 105 = .ok (.iload_n 1, 1) := by decide +kernel
theorem dX12_tries_106 : decode cX12_tries 106 = .ok (.imul, 1) := by decide +kernel
theorem dX12_tries_107 : decode cX12_tries 107 = .ok (.iload 4, 2) := by decide +kernel
theorem dX12_tries_109 : decode cX12_tries 109 = .ok (.iadd, 1) := by decide +kernel
theorem dX12_tries_110 : decode cX12_tries 110 = .ok (.iaload, 1) := by decide +kernel
theorem dX12_tries_111 : decode cX12_tries 111 = .ok (.goto 9, 3) := by decide +kernel
theorem dX12_tries_114 : decode cX12_tries 114 = .ok (.aload_n 0, 1) := by decide +kernel
theorem dX12_tries_115 : decode cX12_tries 115 = .ok (.iload 4, 2) := by decide +kernel
theorem dX12_tries_117 : decode cX12_tries 117 = .ok (.invokevirtual 170, 3) := by decide +kernel
theorem dX12_tries_120 : decode cX12_tries 120 = .ok (.iastore, 1) := by decide +kernel
theorem dX12_tries_121 : decode cX12_tries 121 = .ok (.aload_n 0, 1) := by decide +kernel
theorem dX12_tries_122 : decode cX12_tries 122 = .ok (.getfield 56, 3) := by decide +kernel
theorem dX12_tries_125 : decode cX12_tries 125 = .ok (.bipush 120, 2) := by decide +kernel
theorem dX12_tries_127 : decode cX12_tries 127 = .ok (.iload 4, 2) := by decide +kernel
theorem dX12_tries_129 : decode cX12_tries 129 = .ok (.iadd, 1) := by decide +kernel
theorem dX12_tries_130 : decode cX12_tries 130 = .ok (.aload_n 0, 1) := by decide +kernel
theorem dX12_tries_131 : decode cX12_tries 131 = .ok (.iload_n 1, 1) := by decide +kernel
theorem dX12_tries_132 : decode cX12_tries 132 = .ok (.iload 4, 2) := by decide +kernel
theorem dX12_tries_134 : decode cX12_tries 134 = .ok (.invokevirtual 223, 3) := by decide +kernel
theorem dX12_tries_137 : decode cX12_tries 137 = .ok (.ifCond .eq 18, 3) := by decide +kernel
theorem dX12_tries_140 : decode cX12_tries 140 = .ok (.aload_n 0, 1) := by decide +kernel
theorem dX12_tries_141 : decode cX12_tries 141 = .ok (.getfield 56, 3) := by decide +kernel
theorem dX12_tries_144 : decode cX12_tries 144 = .ok (.bipush 12, 2) := by decide +kernel
theorem dX12_tries_146 : decode cX12_tries 146 = .ok (.iload_n 1, 1) := by decide +kernel
theorem dX12_tries_147 : decode cX12_tries 147 = .ok (.imul, 1) := by decide +kernel
theorem dX12_tries_148 : decode cX12_tries 148 = .ok (.iload 4, 2) := by decide +kernel
theorem dX12_tries_150 : decode cX12_tries 150 = .ok (.iadd, 1) := by decide +kernel
theorem dX12_tries_151 : decode cX12_tries 151 = .ok (.iaload, 1) := by decide +kernel
theorem dX12_tries_152 : decode cX12_tries 152 = .ok (.goto 10, 3) := by decide +kernel
theorem dX12_tries_155 : decode cX12_tries 155 = .ok (.aload_n 0, 1) := by decide +kernel
theorem dX12_tries_156 : decode cX12_tries 156 = .ok (.getfield 16, 3) := by decide +kernel
theorem dX12_tries_159 : decode cX12_tries 159 = .ok (.iload 4, 2) := by decide +kernel
theorem dX12_tries_161 : decode cX12_tries 161 = .ok (.iaload, 1) := by decide +kernel
theorem dX12_tries_162 : decode cX12_tries 162 = .ok (.iastore, 1) := by decide +kernel
theorem dX12_tries_163 : decode cX12_tries 163 = .ok (.iinc 4 1, 3) := by decide +kernel
theorem dX12_tries_166 : decode cX12_tries 166 = .ok (.goto (-95), 3) := by decide +kernel
theorem dX12_tries_169 : decode cX12_tries 169 = .ok (.aload_n 0, 1) := by decide +kernel
theorem dX12_tries_170 : decode cX12_tries 170 = .ok (.bipush 10, 2) := by decide +kernel
theorem dX12_tries_172 : decode cX12_tries 172 = .ok (.invokevirtual 231, 3) := by decide +kernel
theorem dX12_tries_175 : decode cX12_tries 175 = .ok (.aload_n 0, 1) := by decide +kernel
theorem dX12_tries_176 : decode cX12_tries 176 = .ok (.bipush 10, 2) := by decide +kernel
theorem dX12_tries_178 : decode cX12_tries 178 = .ok (.invokevirtual 234, 3) := by decide +kernel
theorem dX12_tries_181 : decode cX12_tries 181 = .ok (.pop, 1) := by decide +kernel
theorem dX12_tries_182 : decode cX12_tries 182 = .ok (.aload_n 0, 1) := by decide +kernel
theorem dX12_tries_183 : decode cX12_tries 183 = .ok (.bipush 10, 2) := by decide +kernel
theorem dX12_tries_185 : decode cX12_tries 185 = .ok (.invokevirtual 237, 3) := by decide +kernel
theorem dX12_tries_188 : decode cX12_tries 188 = .ok (.return_, 1) := by decide +kernel
theorem dX12_setBy_0 : decode cX12_setBy 0 = .ok (.aload_n 0, 1) := by decide +kernel
theorem dX12_setBy_1 : decode cX12_setBy 1 = .ok (.getfield 32, 3) := by decide +kernel
theorem dX12_setBy_4 : decode cX12_setBy 4 = .ok (.iload_n 1, 1) := by decide +kernel
theorem dX12_setBy_5 : decode cX12_setBy 5 = .ok (.iaload, 1) := by decide +kernel
theorem dX12_setBy_6 : decode cX12_setBy 6 = .ok (.istore_n 3, 1) := by decide +kernel
theorem dX12_setBy_7 : decode cX12_setBy 7 = .ok (.iconst 0, 1) := by decide +kernel
theorem dX12_setBy_8 : decode cX12_setBy 8 = .ok (.istore 4, 2) := by decide +kernel
theorem dX12_setBy_10 : decode cX12_setBy 10 = .ok (.iload 4, 2) := by decide +kernel
theorem dX12_setBy_12 : decode cX12_setBy 12 = .ok (.aload_n 0, 1) := by decide +kernel
theorem dX12_setBy_13 : decode cX12_setBy 13 = .ok (.getfield 310, 3) := by decide +kernel
theorem dX12_setBy_16 : decode cX12_setBy 16 = .ok (.if_icmp .ge 26, 3) := by decide +kernel
theorem dX12_setBy_19 : decode cX12_setBy 19 = .ok (.iload_n 3, 1) := by decide +kernel
theorem dX12_setBy_20 : decode cX12_setBy 20 = .ok (.iload_n 2, 1) := by decide +kernel
theorem dX12_setBy_21 : decode cX12_setBy 21 = .ok (.iload 4, 2) := by decide +kernel
theorem dX12_setBy_23 : decode cX12_setBy 23 = .ok (.ishr, 1) := by decide +kernel
theorem dX12_setBy_24 : decode cX12_setBy 24 = .ok (.iconst 1, 1) := by decide +kernel
theorem dX12_setBy_25 : decode cX12_setBy 25 = .ok (.iand, 1) := by decide +kernel
theorem dX12_setBy_26 : decode cX12_setBy 26 = .ok (.aload_n 0, 1) := by decide +kernel
theorem dX12_setBy_27 : decode cX12_setBy 27 = .ok (.getfield 86, 3) := by decide +kernel
theorem dX12_setBy_30 : decode cX12_setBy 30 = .ok (.iload 4, 2) := by decide +kernel
theorem dX12_setBy_32 : decode cX12_setBy 32 = .ok (.iaload, 1) := by decide +kernel
