theorem dX12_sits_21 : decode cX12_sits 21 = .ok (.iastore, 1) := by decide +kernel
theorem dX12_sits_22 : decode cX12_sits 22 = .ok (.iinc 2 1, 3) := by decide +kernel
theorem dX12_sits_25 : decode cX12_sits 25 = .ok (.goto (-23), 3) := by decide +kernel
theorem dX12_sits_28 : decode cX12_sits 28 = .ok (.aload_n 0, 1) := by decide +kernel
theorem dX12_sits_29 : decode cX12_sits 29 = .ok (.getfield 59, 3) := by decide +kernel
theorem dX12_sits_32 : decode cX12_sits 32 = .ok (.iload_n 1, 1) := by decide +kernel
theorem dX12_sits_33 : decode cX12_sits 33 = .ok (.iconst 0, 1) := by decide +kernel
theorem dX12_sits_34 : decode cX12_sits 34 = .ok (.iastore, 1) := by decide +kernel
theorem dX12_sits_35 : decode cX12_sits 35 = .ok (.iconst 0, 1) := by decide +kernel
theorem dX12_sits_36 : decode cX12_sits 36 = .ok (.istore_n 2, 1) := by decide +kernel
theorem dX12_sits_37 : decode cX12_sits 37 = .ok (.iload_n 2, 1) := by decide +kernel
theorem dX12_sits_38 : decode cX12_sits 38 = .ok (.aload_n 0, 1) := by decide +kernel
theorem dX12_sits_39 : decode cX12_sits 39 = .ok (.getfield 140, 3) := by decide +kernel
theorem dX12_sits_42 : decode cX12_sits 42 = .ok (.if_icmp .ge 119, 3) := by decide +kernel
theorem dX12_sits_45 : decode cX12_sits 45 = .ok (.aload_n 0, 1) := by decide +kernel
theorem dX12_sits_46 : decode cX12_sits 46 = .ok (.iload_n 1, 1) := by decide +kernel
theorem dX12_sits_47 : decode cX12_sits 47 = .ok (.iload_n 2, 1) := by decide +kernel
theorem dX12_sits_48 : decode cX12_sits 48 = .ok (.invokevirtual 223, 3) := by decide +kernel
theorem dX12_sits_51 : decode cX12_sits 51 = .ok (.ifCond .eq 19, 3) := by decide +kernel
theorem dX12_sits_54 : decode cX12_sits 54 = .ok (.iconst 4, 1) := by decide +kernel
theorem dX12_sits_55 : decode cX12_sits 55 = .ok (.aload_n 0, 1) := by decide +kernel
theorem dX12_sits_56 : decode cX12_sits 56 = .ok (.getfield 53, 3) := by decide +kernel
theorem dX12_sits_59 : decode cX12_sits 59 = .ok (.bipush 12, 2) := by decide +kernel
theorem dX12_sits_61 : decode cX12_sits 61 = .ok (.iload_n 1, 1) := by decide +kernel
theorem dX12_sits_62 : decode cX12_sits 62 = .ok (.imul, 1) := by decide +kernel
theorem dX12_sits_63 : decode cX12_sits 63 = .ok (.iload_n 2, 1) := by decide +kernel
theorem dX12_sits_64 : decode cX12_sits 64 = .ok (.iadd, 1) := by decide +kernel
theorem dX12_sits_65 : decode cX12_sits 65 = .ok (.iaload, 1) := by decide +kernel
theorem dX12_sits_66 : decode cX12_sits 66 = .ok (.imul, 1) := by decide +kernel
theorem dX12_sits_67 : decode cX12_sits 67 = .ok (.goto 4, 3) := by decide +kernel
theorem dX12_sits_70 : decode cX12_sits 70 = .ok (.iconst 0, 1) := by decide +kernel
theorem dX12_sits_71 : decode cX12_sits 71 = .ok (.istore_n 3, 1) := by decide +kernel
theorem dX12_sits_72 : decode cX12_sits 72 = .ok (.iconst 0, 1) := by decide +kernel
theorem dX12_sits_73 : decode cX12_sits 73 = .ok (.istore 4, 2) := by decide +kernel
theorem dX12_sits_75 : decode cX12_sits 75 = .ok (.iload 4, 2) := by decide +kernel
theorem dX12_sits_77 : decode cX12_sits 77 = .ok (.iload_n 3, 1) := by decide +kernel
theorem dX12_sits_78 : decode cX12_sits 78 = .ok (.if_icmp .ge 77, 3) := by decide +kernel
theorem dX12_sits_81 : decode cX12_sits 81 = .ok (.iload_n 2, 1) := by decide +kernel
theorem dX12_sits_82 : decode cX12_sits 82 = .ok (.iload 4, 2) := by decide +kernel
theorem dX12_sits_84 : decode cX12_sits 84 = .ok (.aload_n 0, 1) := by decide +kernel
theorem dX12_sits_85 : decode cX12_sits 85 = .ok (.getfield 35, 3) := by decide +kernel
theorem dX12_sits_88 : decode cX12_sits 88 = .ok (.iload_n 1, 1) := by decide +kernel
theorem dX12_sits_89 : decode cX12_sits 89 = .ok (.iaload, 1) := by decide +kernel
theorem dX12_sits_90 : decode cX12_sits 90 = .ok (.invokestatic 227, 3) := by decide +kernel
theorem dX12_sits_93 : decode cX12_sits 93 = .ok (.istore 5, 2) := by decide +kernel
theorem dX12_sits_95 : decode cX12_sits 95 = .ok (.aload_n 0, 1) := by decide +kernel
theorem dX12_sits_96 : decode cX12_sits 96 = .ok (.getfield 62, 3) := by decide +kernel
theorem dX12_sits_99 : decode cX12_sits 99 = .ok (.sipush 1000, 3) := by decide +kernel
theorem dX12_sits_102 : decode cX12_sits 102 = .ok (.iload_n 1, 1) := by decide +kernel
theorem dX12_sits_103 : decode cX12_sits 103 = .ok (.imul, 1) := by decide +kernel
theorem dX12_sits_104 : decode cX12_sits 104 = .ok (.iload 5, 2) := by decide +kernel
theorem dX12_sits_106 : decode cX12_sits 106 = .ok (.iadd, 1) := by decide +kernel
theorem dX12_sits_107 : decode cX12_sits 107 = .ok (.iaload, 1) := by decide +kernel
theorem dX12_sits_108 : decode cX12_sits 108 = .ok (.iconst (-1), 1) := by decide +kernel
theorem dX12_sits_109 : decode cX12_sits 109 = .ok (.if_icmp .eq 16, 3) := by decide +kernel
theorem dX12_sits_112 : decode cX12_sits 112 = .ok (.iload 5, 2) := by decide +kernel
theorem dX12_sits_114 : decode cX12_sits 114 = .ok (.iconst 1, 1) := by decide +kernel
theorem dX12_sits_115 : decode cX12_sits 115 = .ok (.iadd, 1) := by decide +kernel
theorem dX12_sits_116 : decode cX12_sits 116 = .ok (.sipush 1000, 3) := by decide +kernel
theorem dX12_sits_119 : decode cX12_sits 119 = .ok (.irem, 1) := by decide +kernel
theorem dX12_sits_120 : decode cX12_sits 120 = .ok (.istore 5, 2) := by decide +kernel
theorem dX12_sits_122 : decode cX12_sits 122 = .ok (.goto (-27), 3) := by decide +kernel
theorem dX12_sits_125 : decode cX12_sits 125 = .ok (.aload_n 0, 1) := by decide +kernel
theorem dX12_sits_126 : decode cX12_sits 126 = .ok (.getfield 62, 3) := by decide +kernel
theorem dX12_sits_129 : decode cX12_sits 129 = .ok (.sipush 1000, 3) := by decide +kernel
theorem dX12_sits_132 : decode cX12_sits 132 = .ok (.iload_n 1, 1) := by decide +kernel
theorem dX12_sits_133 : decode cX12_sits 133 = .ok (.imul, 1) := by decide +kernel
theorem dX12_sits_134 : decode cX12_sits 134 = .ok (.iload 5, 2) := by decide +kernel
theorem dX12_sits_136 : decode cX12_sits 136 = .ok (.iadd, 1) := by decide +kernel
theorem dX12_sits_137 : decode cX12_sits 137 = .ok (.iload_n 2, 1) := by decide +kernel
theorem dX12_sits_138 : decode cX12_sits 138 = .ok (.iastore, 1) := by decide +kernel
theorem dX12_sits_139 : decode cX12_sits 139 = .ok (.aload_n 0, 1) := by decide +kernel
theorem dX12_sits_140 : decode cX12_sits 140 = .ok (.getfield 59, 3) := by decide +kernel
theorem dX12_sits_143 : decode cX12_sits 143 = .ok (.iload_n 1, 1) := by decide +kernel
theorem dX12_sits_144 : decode cX12_sits 144 = .ok (.dup2, 1) := by decide +kernel
theorem dX12_sits_145 : decode cX12_sits 145 = .ok (.iaload, 1) := by decide +kernel
theorem dX12_sits_146 : decode cX12_sits 146 = .ok (.iconst 1, 1) := by decide +kernel
theorem dX12_sits_147 : decode cX12_sits 147 = .ok (.iadd, 1) := by decide +kernel
theorem dX12_sits_148 : decode cX12_sits 148 = .ok (.iastore, 1) := by decide +kernel
theorem dX12_sits_149 : decode cX12_sits 149 = .ok (.iinc 4 1, 3) := by decide +kernel
theorem dX12_sits_152 : decode cX12_sits 152 = .ok (.goto (-77), 3) := by decide +kernel
theorem dX12_sits_155 : decode cX12_sits 155 = .ok (.iinc 2 1, 3) := by decide +kernel
theorem dX12_sits_158 : decode cX12_sits 158 = .ok (.goto (-121), 3) := by decide +kernel
theorem dX12_sits_161 : decode cX12_sits 161 = .ok (.return_, 1) := by decide +kernel
theorem dX12_table_16 : decode cX12_table 16 = .ok (.aload_n 0, 1) := by decide +kernel
theorem dX12_table_17 : decode cX12_table 17 = .ok (.getfield 143, 3) := by decide +kernel
theorem dX12_table_20 : decode cX12_table 20 = .ok (.bipush 10, 2) := by decide +kernel
theorem dX12_table_22 : decode cX12_table 22 = .ok (.if_icmp .ne 6, 3) := by decide +kernel
theorem dX12_table_25 : decode cX12_table 25 = .ok (.bipush (-3), 2) := by decide +kernel
theorem dX12_table_27 : decode cX12_table 27 = .ok (.ireturn, 1) := by decide +kernel
theorem dX12_table_28 : decode cX12_table 28 = .ok (.aload_n 0, 1) := by decide +kernel
theorem dX12_table_29 : decode cX12_table 29 = .ok (.getfield 143, 3) := by decide +kernel
theorem dX12_table_32 : decode cX12_table 32 = .ok (.istore_n 3, 1) := by decide +kernel
theorem dX12_table_33 : decode cX12_table 33 = .ok (.aload_n 0, 1) := by decide +kernel
theorem dX12_table_34 : decode cX12_table 34 = .ok (.getfield 32, 3) := by decide +kernel
theorem dX12_table_37 : decode cX12_table 37 = .ok (.iload_n 3, 1) := by decide +kernel
theorem dX12_table_38 : decode cX12_table 38 = .ok (.iload_n 1, 1) := by decide +kernel
theorem dX12_table_39 : decode cX12_table 39 = .ok (.iastore, 1) := by decide +kernel
theorem dX12_table_40 : decode cX12_table 40 = .ok (.aload_n 0, 1) := by decide +kernel
theorem dX12_table_41 : decode cX12_table 41 = .ok (.getfield 35, 3) := by decide +kernel
theorem dX12_table_44 : decode cX12_table 44 = .ok (.iload_n 3, 1) := by decide +kernel
theorem dX12_table_45 : decode cX12_table 45 = .ok (.iload_n 2, 1) := by decide +kernel
theorem dX12_table_46 : decode cX12_table 46 = .ok (.iastore, 1) := by decide +kernel
theorem dX12_table_47 : decode cX12_table 47 = .ok (.iconst 0, 1) := by decide +kernel
theorem dX12_table_48 : decode cX12_table 48 = .ok (.istore 4, 2) := by decide +kernel
theorem dX12_table_50 : decode cX12_table 50 = .ok (.iload 4, 2) := by decide +kernel
theorem dX12_table_52 : decode cX12_table 52 = .ok (.aload_n 0, 1) := by decide +kernel
theorem dX12_table_53 : decode cX12_table 53 = .ok (.getfield 140, 3) := by decide +kernel
theorem dX12_table_56 : decode cX12_table 56 = .ok (.if_icmp .ge 46, 3) := by decide +kernel
theorem dX12_table_59 : decode cX12_table 59 = .ok (.aload_n 0, 1) := by decide +kernel
theorem dX12_table_60 : decode cX12_table 60 = .ok (.getfield 53, 3) := by decide +kernel
theorem dX12_table_63 : decode cX12_table 63 = .ok (.bipush 12, 2) := by decide +kernel
theorem dX12_table_65 : decode cX12_table 65 = .ok (.iload_n 3, 1) := by decide +kernel
theorem dX12_table_66 : decode cX12_table 66 = .ok (.imul, 1) := by decide +kernel
theorem dX12_table_67 : decode cX12_table 67 = .ok (.iload 4, 2) := by decide +kernel
theorem dX12_table_69 : decode cX12_table 69 = .ok (.iadd, 1) := by decide +kernel
theorem dX12_table_70 : decode cX12_table 70 = .ok (.aload_n 0, 1) := by decide +kernel
theorem dX12_table_71 : decode cX12_table 71 = .ok (.iload 4, 2) := by decide +kernel
theorem dX12_table_73 : decode cX12_table 73 = .ok (.invokevirtual 170, 3) := by decide +kernel
theorem dX12_table_76 : decode cX12_table 76 = .ok (.iastore, 1) := by decide +kernel
theorem dX12_table_77 : decode cX12_table 77 = .ok (.aload_n 0, 1) := by decide +kernel
theorem dX12_table_78 : decode cX12_table 78 = .ok (.getfield 56, 3) := by decide +kernel
theorem dX12_table_81 : decode cX12_table 81 = .ok (.bipush 12, 2) := by decide +kernel
theorem dX12_table_83 : decode cX12_table 83 = .ok (.iload_n 3, 1) := by decide +kernel
theorem dX12_table_84 : decode cX12_table 84 = .ok (.imul, 1) := by decide +kernel
theorem dX12_table_85 : decode cX12_table 85 = .ok (.iload 4, 2) := by decide +kernel
theorem dX12_table_87 : decode cX12_table 87 = .ok (.iadd, 1) := by decide +kernel
theorem dX12_table_88 : decode cX12_table 88 = .ok (.aload_n 0, 1) := by decide +kernel
theorem dX12_table_89 : decode cX12_table 89 = .ok (.getfield 16, 3) := by decide +kernel
theorem dX12_table_92 : decode cX12_table 92 = .ok (.iload 4, 2) := by decide +kernel
theorem dX12_table_94 : decode cX12_table 94 = .ok (.iaload, 1) := by decide +kernel
theorem dX12_table_95 : decode cX12_table 95 = .ok (.iastore, 1) := by decide +kernel
theorem dX12_table_96 : decode cX12_table 96 = .ok (.iinc 4 1, 3) := by decide +kernel
theorem dX12_table_99 : decode cX12_table 99 = .ok (.goto (-49), 3) := by decide +kernel
theorem dX12_table_102 : decode cX12_table 102 = .ok (.aload_n 0, 1) := by decide +kernel
theorem dX12_table_103 : decode cX12_table 103 = .ok (.getfield 47, 3) := by decide +kernel
theorem dX12_table_106 : decode cX12_table 106 = .ok (.iload_n 3, 1) := by decide +kernel
theorem dX12_table_107 : decode cX12_table 107 = .ok (.aload_n 0, 1) := by decide +kernel
theorem dX12_table_108 : decode cX12_table 108 = .ok (.getfield 146, 3) := by decide +kernel
theorem dX12_table_111 : decode cX12_table 111 = .ok (.iastore, 1) := by decide +kernel
theorem dX12_table_112 : decode cX12_table 112 = .ok (.iconst 0, 1) := by decide +kernel
theorem dX12_table_113 : decode cX12_table 113 = .ok (.istore 4, 2) := by decide +kernel
theorem dX12_table_115 : decode cX12_table 115 = .ok (.iload 4, 2) := by decide +kernel
theorem dX12_table_117 : decode cX12_table 117 = .ok (.aload_n 0, 1) := by decide +kernel
theorem dX12_table_118 : decode cX12_table 118 = .ok (.getfield 146, 3) := by decide +kernel
theorem dX12_table_121 : decode cX12_table 121 = .ok (.if_icmp .ge 28, 3) := by decide +kernel
theorem dX12_table_124 : decode cX12_table 124 = .ok (.aload_n 0, 1) := by decide +kernel
theorem dX12_table_125 : decode cX12_table 125 = .ok (.getfield 50, 3) := by decide +kernel
theorem dX12_table_128 : decode cX12_table 128 = .ok (.bipush 80, 2) := by decide +kernel
theorem dX12_table_130 : decode cX12_table 130 = .ok (.iload_n 3, 1) := by decide +kernel
theorem dX12_table_131 : decode cX12_table 131 = .ok (.imul, 1) := by decide +kernel
theorem dX12_table_132 : decode cX12_table 132 = .ok (.iload 4, 2) := by decide +kernel
theorem dX12_table_134 : decode cX12_table 134 = .ok (.iadd, 1) := by decide +kernel
theorem dX12_table_135 : decode cX12_table 135 = .ok (.aload_n 0, 1) := by decide +kernel
theorem dX12_table_136 : decode cX12_table 136 = .ok (.getfield 65, 3) := by decide +kernel
theorem dX12_table_139 : decode cX12_table 139 = .ok (.iload 4, 2) := by decide +kernel
theorem dX12_table_141 : decode cX12_table 141 = .ok (.iaload, 1) := by decide +kernel
theorem dX12_table_142 : decode cX12_table 142 = .ok (.iastore, 1) := by decide +kernel
theorem dX12_table_143 : decode cX12_table 143 = .ok (.iinc 4 1, 3) := by decide +kernel
theorem dX12_table_146 : decode cX12_table 146 = .ok (.goto (-31), 3) := by decide +kernel
theorem dX12_table_149 : decode cX12_table 149 = .ok (.aload_n 0, 1) := by decide +kernel
theorem dX12_table_150 : decode cX12_table 150 = .ok (.iconst 0, 1) := by decide +kernel
theorem dX12_table_151 : decode cX12_table 151 = .ok (.putfield 146, 3) := by decide +kernel
theorem dX12_table_154 : decode cX12_table 154 = .ok (.aload_n 0, 1) := by decide +kernel
theorem dX12_table_155 : decode cX12_table 155 = .ok (.iload_n 3, 1) := by decide +kernel
theorem dX12_table_156 : decode cX12_table 156 = .ok (.invokevirtual 231, 3) := by decide +kernel
theorem dX12_table_159 : decode cX12_table 159 = .ok (.aload_n 0, 1) := by decide +kernel
theorem dX12_table_160 : decode cX12_table 160 = .ok (.iload_n 3, 1) := by decide +kernel
theorem dX12_table_161 : decode cX12_table 161 = .ok (.invokevirtual 234, 3) := by decide +kernel
theorem dX12_table_164 : decode cX12_table 164 = .ok (.istore 4, 2) := by decide +kernel
theorem dX12_table_166 : decode cX12_table 166 = .ok (.iload 4, 2) := by decide +kernel
theorem dX12_table_168 : decode cX12_table 168 = .ok (.ifCond .lt 9, 3) := by decide +kernel
theorem dX12_table_171 : decode cX12_table 171 = .ok (.bipush (-100), 2) := by decide +kernel
theorem dX12_table_173 : decode cX12_table 173 = .ok (.iload 4, 2) := by decide +kernel
theorem dX12_table_175 : decode cX12_table 175 = .ok (.isub, 1) := by decide +kernel
theorem dX12_table_176 : decode cX12_table 176 = .ok (.ireturn, 1) := by decide +kernel
theorem dX12_table_177 : decode cX12_table 177 = .ok (.aload_n 0, 1) := by decide +kernel
theorem dX12_table_178 : decode cX12_table 178 = .ok (.iload_n 3, 1) := by decide +kernel
theorem dX12_table_179 : decode cX12_table 179 = .ok (.invokevirtual 237, 3) := by decide +kernel
theorem dX12_table_182 : decode cX12_table 182 = .ok (.aload_n 0, 1) := by decide +kernel
theorem dX12_table_183 : decode cX12_table 183 = .ok (.dup, 1) := by decide +kernel
theorem dX12_table_184 : decode cX12_table 184 = .ok (.getfield 143, 3) := by decide +kernel
theorem dX12_table_187 : decode cX12_table 187 = .ok (.iconst 1, 1) := by decide +kernel
theorem dX12_table_188 : decode cX12_table 188 = .ok (.iadd, 1) := by decide +kernel
theorem dX12_table_189 : decode cX12_table 189 = .ok (.putfield 143, 3) := by decide +kernel
theorem dX12_table_192 : decode cX12_table 192 = .ok (.iload_n 3, 1) := by decide +kernel
theorem dX12_table_193 : decode cX12_table 193 = .ok (.ireturn, 1) := by decide +kernel
theorem dX12_pickNext_0 : decode cX12_pickNext 0 = .ok (.iload_n 2, 1) := by decide +kernel
theorem dX12_pickNext_1 : decode cX12_pickNext 1 = .ok (.istore 4, 2) := by decide +kernel
theorem dX12_pickNext_3 : decode cX12_pickNext 3 = .ok (.aload_n 0, 1) := by decide +kernel
theorem dX12_pickNext_4 : decode cX12_pickNext 4 = .ok (.getfield 62, 3) := by decide +kernel
theorem dX12_pickNext_7 : decode cX12_pickNext 7 = .ok (.sipush 1000, 3) := by decide +kernel
theorem dX12_pickNext_10 : decode cX12_pickNext 10 = .ok (.iload_n 1, 1) := by decide +kernel
theorem dX12_pickNext_11 : decode cX12_pickNext 11 = .ok (.imul, 1) := by decide +kernel
theorem dX12_pickNext_12 : decode cX12_pickNext 12 = .ok (.iload 4, 2) := by decide +kernel
theorem dX12_pickNext_14 : decode cX12_pickNext 14 = .ok (.iadd, 1) := by decide +kernel
theorem dX12_pickNext_15 : decode cX12_pickNext 15 = .ok (.iaload, 1) := by decide +kernel
theorem dX12_pickNext_16 : decode cX12_pickNext 16 = .ok (.iconst (-1), 1) := by decide +kernel
theorem dX12_pickNext_17 : decode cX12_pickNext 17 = .ok (.if_icmp .eq 24, 3) := by decide +kernel
theorem dX12_pickNext_20 : decode cX12_pickNext 20 = .ok (.iload_n 3, 1) := by decide +kernel
theorem dX12_pickNext_21 : decode cX12_pickNext 21 = .ok (.aload_n 0, 1) := by decide +kernel
theorem dX12_pickNext_22 : decode cX12_pickNext 22 = .ok (.getfield 62, 3) := by decide +kernel
theorem dX12_pickNext_25 : decode cX12_pickNext 25 = .ok (.sipush 1000, 3) := by decide +kernel
theorem dX12_pickNext_28 : decode cX12_pickNext 28 = .ok (.iload_n 1, 1) := by decide +kernel
theorem dX12_pickNext_29 : decode cX12_pickNext 29 = .ok (.imul, 1) := by decide +kernel
theorem dX12_pickNext_30 : decode cX12_pickNext 30 = .ok (.iload 4, 2) := by decide +kernel
theorem dX12_pickNext_32 : decode cX12_pickNext 32 = .ok (.iadd, 1) := by decide +kernel
theorem dX12_pickNext_33 : decode cX12_pickNext 33 = .ok (.iaload, 1) := by decide +kernel
theorem dX12_pickNext_34 : decode cX12_pickNext 34 = .ok (.ishr, 1) := by decide +kernel
theorem dX12_pickNext_35 : decode cX12_pickNext 35 = .ok (.iconst 1, 1) := by decide +kernel
theorem dX12_pickNext_36 : decode cX12_pickNext 36 = .ok (.iand, 1) := by decide +kernel
theorem dX12_pickNext_37 : decode cX12_pickNext 37 = .ok (.iconst 1, 1) := by decide +kernel
theorem dX12_pickNext_38 : decode cX12_pickNext 38 = .ok (.if_icmp .ne 16, 3) := by decide +kernel
theorem dX12_pickNext_41 : decode cX12_pickNext 41 = .ok (.iload 4, 2) := by decide +kernel
theorem dX12_pickNext_43 : decode cX12_pickNext 43 = .ok (.iconst 1, 1) := by decide +kernel
theorem dX12_pickNext_44 : decode cX12_pickNext 44 = .ok (.iadd, 1) := by decide +kernel
theorem dX12_pickNext_45 : decode cX12_pickNext 45 = .ok (.sipush 1000, 3) := by decide +kernel
theorem dX12_pickNext_48 : decode cX12_pickNext 48 = .ok (.irem, 1) := by decide +kernel
theorem dX12_pickNext_49 : decode cX12_pickNext 49 = .ok (.istore 4, 2) := by decide +kernel
theorem dX12_pickNext_51 : decode cX12_pickNext 51 = .ok (.goto (-48), 3) := by decide +kernel
theorem dX12_pickNext_54 : decode cX12_pickNext 54 = .ok (.aload_n 0, 1) := by decide +kernel
theorem dX12_pickNext_55 : decode cX12_pickNext 55 = .ok (.getfield 118, 3) := by decide +kernel
theorem dX12_pickNext_58 : decode cX12_pickNext 58 = .ok (.aload_n 0, 1) := by decide +kernel
theorem dX12_pickNext_59 : decode cX12_pickNext 59 = .ok (.getfield 240, 3) := by decide +kernel
theorem dX12_pickNext_62 : decode cX12_pickNext 62 = .ok (.aload_n 0, 1) := by decide +kernel
theorem dX12_pickNext_63 : decode cX12_pickNext 63 = .ok (.getfield 62, 3) := by decide +kernel
theorem dX12_pickNext_66 : decode cX12_pickNext 66 = .ok (.sipush 1000, 3) := by decide +kernel
theorem dX12_pickNext_69 : decode cX12_pickNext 69 = .ok (.iload_n 1, 1) := by decide +kernel
theorem dX12_pickNext_70 : decode cX12_pickNext 70 = .ok (.imul, 1) := by decide +kernel
theorem dX12_pickNext_71 : decode cX12_pickNext 71 = .ok (.iload 4, 2) := by decide +kernel
theorem dX12_pickNext_73 : decode cX12_pickNext 73 = .ok (.iadd, 1) := by decide +kernel
theorem dX12_pickNext_74 : decode cX12_pickNext 74 = .ok (.iaload, 1) := by decide +kernel
theorem dX12_pickNext_75 : decode cX12_pickNext 75 = .ok (.iastore, 1) := by decide +kernel
theorem dX12_pickNext_76 : decode cX12_pickNext 76 = .ok (.aload_n 0, 1) := by decide +kernel
theorem dX12_pickNext_77 : decode cX12_pickNext 77 = .ok (.dup, 1) := by decide +kernel
theorem dX12_pickNext_78 : decode cX12_pickNext 78 = .ok (.getfield 240, 3) := by decide +kernel
theorem dX12_pickNext_81 : decode cX12_pickNext 81 = .ok (.iconst 1, 1) := by decide +kernel
theorem dX12_pickNext_82 : decode cX12_pickNext 82 = .ok (.iadd, 1) := by decide +kernel
theorem dX12_pickNext_83 : decode cX12_pickNext 83 = .ok (.putfield 240, 3) := by decide +kernel
theorem dX12_pickNext_86 : decode cX12_pickNext 86 = .ok (.return_, 1) := by decide +kernel
theorem dX12_pick_0 : decode cX12_pick 0 = .ok (.aload_n 0, 1) := by decide +kernel
theorem dX12_pick_1 : decode cX12_pick 1 = .ok (.iconst 0, 1) := by decide +kernel
theorem dX12_pick_2 : decode cX12_pick 2 = .ok (.putfield 240, 3) := by decide +kernel
theorem dX12_pick_5 : decode cX12_pick 5 = .ok (.iconst 0, 1) := by decide +kernel
theorem dX12_pick_6 : decode cX12_pick 6 = .ok (.istore_n 3, 1) := by decide +kernel
theorem dX12_pick_7 : decode cX12_pick 7 = .ok (.iload_n 2, 1) := by decide +kernel
theorem dX12_pick_8 : decode cX12_pick 8 = .ok (.istore 4, 2) := by decide +kernel
theorem dX12_pick_10 : decode cX12_pick 10 = .ok (.iload_n 3, 1) := by decide +kernel
theorem dX12_pick_11 : decode cX12_pick 11 = .ok (.aload_n 0, 1) := by decide +kernel
theorem dX12_pick_12 : decode cX12_pick 12 = .ok (.getfield 32, 3) := by decide +kernel
theorem dX12_pick_15 : decode cX12_pick 15 = .ok (.iload_n 1, 1) := by decide +kernel
theorem dX12_pick_16 : decode cX12_pick 16 = .ok (.iaload, 1) := by decide +kernel
theorem dX12_pick_17 : decode cX12_pick 17 = .ok (.if_icmp .eq 77, 3) := by decide +kernel
theorem dX12_pick_20 : decode cX12_pick 20 = .ok (.aload_n 0, 1) := by decide +kernel
theorem dX12_pick_21 : decode cX12_pick 21 = .ok (.getfield 44, 3) := by decide +kernel
theorem dX12_pick_24 : decode cX12_pick 24 = .ok (.iload_n 1, 1) := by decide +kernel
theorem dX12_pick_25 : decode cX12_pick 25 = .ok (.iaload, 1) := by decide +kernel
theorem dX12_pick_26 : decode cX12_pick 26 = .ok (.iconst 1, 1) := by decide +kernel
theorem dX12_pick_27 : decode cX12_pick 27 = .ok (.if_icmp .ne 13, 3) := by decide +kernel
theorem dX12_pick_30 : decode cX12_pick 30 = .ok (.aload_n 0, 1) := by decide +kernel
theorem dX12_pick_31 : decode cX12_pick 31 = .ok (.iload_n 1, 1) := by decide +kernel
theorem dX12_pick_32 : decode cX12_pick 32 = .ok (.iload_n 2, 1) := by decide +kernel
theorem dX12_pick_33 : decode cX12_pick 33 = .ok (.iload_n 3, 1) := by decide +kernel
theorem dX12_pick_34 : decode cX12_pick 34 = .ok (.invokevirtual 243, 3) := by decide +kernel
theorem dX12_pick_37 : decode cX12_pick 37 = .ok (.goto 38, 3) := by decide +kernel
theorem dX12_pick_40 : decode cX12_pick 40 = .ok (.aload_n 0, 1) := by decide +kernel
theorem dX12_pick_41 : decode cX12_pick 41 = .ok (.iload_n 1, 1) := by decide +kernel
theorem dX12_pick_42 : decode cX12_pick 42 = .ok (.iload 4, 2) := by decide +kernel
theorem dX12_pick_44 : decode cX12_pick 44 = .ok (.iload_n 3, 1) := by decide +kernel
theorem dX12_pick_45 : decode cX12_pick 45 = .ok (.invokevirtual 247, 3) := by decide +kernel
theorem dX12_pick_48 : decode cX12_pick 48 = .ok (.aload_n 0, 1) := by decide +kernel
theorem dX12_pick_49 : decode cX12_pick 49 = .ok (.getfield 44, 3) := by decide +kernel
theorem dX12_pick_52 : decode cX12_pick 52 = .ok (.iload_n 1, 1) := by decide +kernel
theorem dX12_pick_53 : decode cX12_pick 53 = .ok (.iaload, 1) := by decide +kernel
theorem dX12_pick_54 : decode cX12_pick 54 = .ok (.iconst 2, 1) := by decide +kernel
theorem dX12_pick_55 : decode cX12_pick 55 = .ok (.if_icmp .ne 16, 3) := by decide +kernel
theorem dX12_pick_58 : decode cX12_pick 58 = .ok (.iload 4, 2) := by decide +kernel
theorem dX12_pick_60 : decode cX12_pick 60 = .ok (.sipush 333, 3) := by decide +kernel
theorem dX12_pick_63 : decode cX12_pick 63 = .ok (.iadd, 1) := by decide +kernel
theorem dX12_pick_64 : decode cX12_pick 64 = .ok (.sipush 1000, 3) := by decide +kernel
theorem dX12_pick_67 : decode cX12_pick 67 = .ok (.irem, 1) := by decide +kernel
theorem dX12_pick_68 : decode cX12_pick 68 = .ok (.goto 5, 3) := by decide +kernel
theorem dX12_pick_71 : decode cX12_pick 71 = .ok (.iload 4, 2) := by decide +kernel
theorem dX12_pick_73 : decode cX12_pick 73 = .ok (.istore 4, 2) := by decide +kernel
theorem dX12_pick_75 : decode cX12_pick 75 = .ok (.iload_n 3, 1) := by decide +kernel
theorem dX12_pick_76 : decode cX12_pick 76 = .ok (.iconst 1, 1) := by decide +kernel
theorem dX12_pick_77 : decode cX12_pick 77 = .ok (.aload_n 0, 1) := by decide +kernel
theorem dX12_pick_78 : decode cX12_pick 78 = .ok (.getfield 118, 3) := by decide +kernel
theorem dX12_pick_81 : decode cX12_pick 81 = .ok (.aload_n 0, 1) := by decide +kernel
theorem dX12_pick_82 : decode cX12_pick 82 = .ok (.getfield 240, 3) := by decide +kernel
theorem dX12_pick_85 : decode cX12_pick 85 = .ok (.iconst 1, 1) := by decide +kernel
theorem dX12_pick_86 : decode cX12_pick 86 = .ok (.isub, 1) := by decide +kernel
theorem dX12_pick_87 : decode cX12_pick 87 = .ok (.iaload, 1) := by decide +kernel
theorem dX12_pick_88 : decode cX12_pick 88 = .ok (.ishl, 1) := by decide +kernel
theorem dX12_pick_89 : decode cX12_pick 89 = .ok (.ior, 1) := by decide +kernel
theorem dX12_pick_90 : decode cX12_pick 90 = .ok (.istore_n 3, 1) := by decide +kernel
theorem dX12_pick_91 : decode cX12_pick 91 = .ok (.goto (-81), 3) := by decide +kernel
theorem dX12_pick_94 : decode cX12_pick 94 = .ok (.return_, 1) := by decide +kernel
theorem dX12_pickBest_0 : decode cX12_pickBest 0 = .ok (.iconst (-1), 1) := by decide +kernel
theorem dX12_pickBest_1 : decode cX12_pickBest 1 = .ok (.istore 4, 2) := by decide +kernel
theorem dX12_pickBest_3 : decode cX12_pickBest 3 = .ok (.iconst 0, 1) := by decide +kernel
theorem dX12_pickBest_4 : decode cX12_pickBest 4 = .ok (.istore 5, 2) := by decide +kernel
theorem dX12_pickBest_6 : decode cX12_pickBest 6 = .ok (.iconst 0, 1) := by decide +kernel
theorem dX12_pickBest_7 : decode cX12_pickBest 7 = .ok (.istore 6, 2) := by decide +kernel
theorem dX12_pickBest_9 : decode cX12_pickBest 9 = .ok (.iload 6, 2) := by decide +kernel
theorem dX12_pickBest_11 : decode cX12_pickBest 11 = .ok (.aload_n 0, 1) := by decide +kernel
theorem dX12_pickBest_12 : decode cX12_pickBest 12 = .ok (.getfield 140, 3) := by decide +kernel
theorem dX12_pickBest_15 : decode cX12_pickBest 15 = .ok (.if_icmp .ge 76, 3) := by decide +kernel
theorem dX12_pickBest_18 : decode cX12_pickBest 18 = .ok (.iload_n 2, 1) := by decide +kernel
theorem dX12_pickBest_19 : decode cX12_pickBest 19 = .ok (.iload 6, 2) := by decide +kernel
theorem dX12_pickBest_21 : decode cX12_pickBest 21 = .ok (.aload_n 0, 1) := by decide +kernel
theorem dX12_pickBest_22 : decode cX12_pickBest 22 = .ok (.getfield 35, 3) := by decide +kernel
theorem dX12_pickBest_25 : decode cX12_pickBest 25 = .ok (.iload_n 1, 1) := by decide +kernel
theorem dX12_pickBest_26 : decode cX12_pickBest 26 = .ok (.iaload, 1) := by decide +kernel
theorem dX12_pickBest_27 : decode cX12_pickBest 27 = .ok (.invokestatic 227, 3) := by decide +kernel
theorem dX12_pickBest_30 : decode cX12_pickBest 30 = .ok (.aload_n 0, 1) := by decide +kernel
theorem dX12_pickBest_31 : decode cX12_pickBest 31 = .ok (.getfield 53, 3) := by decide +kernel
theorem dX12_pickBest_34 : decode cX12_pickBest 34 = .ok (.bipush 12, 2) := by decide +kernel
theorem dX12_pickBest_36 : decode cX12_pickBest 36 = .ok (.iload_n 1, 1) := by decide +kernel
theorem dX12_pickBest_37 : decode cX12_pickBest 37 = .ok (.imul, 1) := by decide +kernel
theorem dX12_pickBest_38 : decode cX12_pickBest 38 = .ok (.iload 6, 2) := by decide +kernel
theorem dX12_pickBest_40 : decode cX12_pickBest 40 = .ok (.iadd, 1) := by decide +kernel
theorem dX12_pickBest_41 : decode cX12_pickBest 41 = .ok (.iaload, 1) := by decide +kernel
theorem dX12_pickBest_42 : decode cX12_pickBest 42 = .ok (.imul, 1) := by decide +kernel
theorem dX12_pickBest_43 : decode cX12_pickBest 43 = .ok (.istore 7, 2) := by decide +kernel
theorem dX12_pickBest_45 : decode cX12_pickBest 45 = .ok (.aload_n 0, 1) := by decide +kernel
theorem dX12_pickBest_46 : decode cX12_pickBest 46 = .ok (.iload_n 1, 1) := by decide +kernel
theorem dX12_pickBest_47 : decode cX12_pickBest 47 = .ok (.iload 6, 2) := by decide +kernel
theorem dX12_pickBest_49 : decode cX12_pickBest 49 = .ok (.invokevirtual 223, 3) := by decide +kernel
theorem dX12_pickBest_52 : decode cX12_pickBest 52 = .ok (.ifCond .eq 33, 3) := by decide +kernel
theorem dX12_pickBest_55 : decode cX12_pickBest 55 = .ok (.iload_n 3, 1) := by decide +kernel
theorem dX12_pickBest_56 : decode cX12_pickBest 56 = .ok (.iload 6, 2) := by decide +kernel
theorem dX12_pickBest_58 : decode cX12_pickBest 58 = .ok (.ishr, 1) := by decide +kernel
theorem dX12_pickBest_59 : decode cX12_pickBest 59 = .ok (.iconst 1, 1) := by decide +kernel
theorem dX12_pickBest_60 : decode cX12_pickBest 60 = .ok (.iand, 1) := by decide +kernel
theorem dX12_pickBest_61 : decode cX12_pickBest 61 = .ok (.ifCond .ne 24, 3) := by decide +kernel
theorem dX12_pickBest_64 : decode cX12_pickBest 64 = .ok (.iload 4, 2) := by decide +kernel
theorem dX12_pickBest_66 : decode cX12_pickBest 66 = .ok (.iconst (-1), 1) := by decide +kernel
theorem dX12_pickBest_67 : decode cX12_pickBest 67 = .ok (.if_icmp .eq 10, 3) := by decide +kernel
theorem dX12_pickBest_70 : decode cX12_pickBest 70 = .ok (.iload 7, 2) := by decide +kernel
theorem dX12_pickBest_72 : decode cX12_pickBest 72 = .ok (.iload 5, 2) := by decide +kernel
theorem dX12_pickBest_74 : decode cX12_pickBest 74 = .ok (.if_icmp .le 11, 3) := by decide +kernel
theorem dX12_pickBest_77 : decode cX12_pickBest 77 = .ok (.iload 6, 2) := by decide +kernel
theorem dX12_pickBest_79 : decode cX12_pickBest 79 = .ok (.istore 4, 2) := by decide +kernel
theorem dX12_pickBest_81 : decode cX12_pickBest 81 = .ok (.iload 7, 2) := by decide +kernel
theorem dX12_pickBest_83 : decode cX12_pickBest 83 = .ok (.istore 5, 2) := by decide +kernel
theorem dX12_pickBest_85 : decode cX12_pickBest 85 = .ok (.iinc 6 1, 3) := by decide +kernel
theorem dX12_pickBest_88 : decode cX12_pickBest 88 = .ok (.goto (-79), 3) := by decide +kernel
theorem dX12_pickBest_91 : decode cX12_pickBest 91 = .ok (.aload_n 0, 1) := by decide +kernel
theorem dX12_pickBest_92 : decode cX12_pickBest 92 = .ok (.getfield 118, 3) := by decide +kernel
theorem dX12_pickBest_95 : decode cX12_pickBest 95 = .ok (.aload_n 0, 1) := by decide +kernel
theorem dX12_pickBest_96 : decode cX12_pickBest 96 = .ok (.getfield 240, 3) := by decide +kernel
theorem dX12_pickBest_99 : decode cX12_pickBest 99 = .ok (.iload 4, 2) := by decide +kernel
theorem dX12_pickBest_101 : decode cX12_pickBest 101 = .ok (.iastore, 1) := by decide +kernel
theorem dX12_pickBest_102 : decode cX12_pickBest 102 = .ok (.aload_n 0, 1) := by decide +kernel
theorem dX12_pickBest_103 : decode cX12_pickBest 103 = .ok (.dup, 1) := by decide +kernel
theorem dX12_pickBest_104 : decode cX12_pickBest 104 = .ok (.getfield 240, 3) := by decide +kernel
theorem dX12_pickBest_107 : decode cX12_pickBest 107 = .ok (.iconst 1, 1) := by decide +kernel
theorem dX12_pickBest_108 : decode cX12_pickBest 108 = .ok (.iadd, 1) := by decide +kernel
theorem dX12_pickBest_109 : decode cX12_pickBest 109 = .ok (.putfield 240, 3) := by decide +kernel
theorem dX12_pickBest_112 : decode cX12_pickBest 112 = .ok (.return_, 1) := by decide +kernel
theorem dX12_streetsOf_0 : decode cX12_streetsOf 0 = .ok (.iconst 0, 1) := by decide +kernel
theorem dX12_streetsOf_1 : decode cX12_streetsOf 1 = .ok (.istore_n 2, 1) := by decide +kernel
theorem dX12_streetsOf_2 : decode cX12_streetsOf 2 = .ok (.iconst 0, 1) := by decide +kernel
theorem dX12_streetsOf_3 : decode cX12_streetsOf 3 = .ok (.istore_n 3, 1) := by decide +kernel
theorem dX12_streetsOf_4 : decode cX12_streetsOf 4 = .ok (.iload_n 3, 1) := by decide +kernel
theorem dX12_streetsOf_5 : decode cX12_streetsOf 5 = .ok (.aload_n 0, 1) := by decide +kernel
theorem dX12_streetsOf_6 : decode cX12_streetsOf 6 = .ok (.getfield 250, 3) := by decide +kernel
theorem dX12_streetsOf_9 : decode cX12_streetsOf 9 = .ok (.if_icmp .ge 30, 3) := by decide +kernel
theorem dX12_streetsOf_12 : decode cX12_streetsOf 12 = .ok (.iload_n 2, 1) := by decide +kernel
theorem dX12_streetsOf_13 : decode cX12_streetsOf 13 = .ok (.iconst 1, 1) := by decide +kernel
theorem dX12_streetsOf_14 : decode cX12_streetsOf 14 = .ok (.aload_n 0, 1) := by decide +kernel
theorem dX12_streetsOf_15 : decode cX12_streetsOf 15 = .ok (.getfield 56, 3) := by decide +kernel
theorem dX12_streetsOf_18 : decode cX12_streetsOf 18 = .ok (.bipush 12, 2) := by decide +kernel
theorem dX12_streetsOf_20 : decode cX12_streetsOf 20 = .ok (.iload_n 1, 1) := by decide +kernel
theorem dX12_streetsOf_21 : decode cX12_streetsOf 21 = .ok (.imul, 1) := by decide +kernel
theorem dX12_streetsOf_22 : decode cX12_streetsOf 22 = .ok (.aload_n 0, 1) := by decide +kernel
theorem dX12_streetsOf_23 : decode cX12_streetsOf 23 = .ok (.getfield 121, 3) := by decide +kernel
theorem dX12_streetsOf_26 : decode cX12_streetsOf 26 = .ok (.iload_n 3, 1) := by decide +kernel
theorem dX12_streetsOf_27 : decode cX12_streetsOf 27 = .ok (.iaload, 1) := by decide +kernel
theorem dX12_streetsOf_28 : decode cX12_streetsOf 28 = .ok (.iadd, 1) := by decide +kernel
theorem dX12_streetsOf_29 : decode cX12_streetsOf 29 = .ok (.iaload, 1) := by decide +kernel
theorem dX12_streetsOf_30 : decode cX12_streetsOf 30 = .ok (.ishl, 1) := by decide +kernel
theorem dX12_streetsOf_31 : decode cX12_streetsOf 31 = .ok (.ior, 1) := by decide +kernel
theorem dX12_streetsOf_32 : decode cX12_streetsOf 32 = .ok (.istore_n 2, 1) := by decide +kernel
theorem dX12_streetsOf_33 : decode cX12_streetsOf 33 = .ok (.iinc 3 1, 3) := by decide +kernel
theorem dX12_streetsOf_36 : decode cX12_streetsOf 36 = .ok (.goto (-32), 3) := by decide +kernel
theorem dX12_streetsOf_39 : decode cX12_streetsOf 39 = .ok (.iconst 0, 1) := by decide +kernel
theorem dX12_streetsOf_40 : decode cX12_streetsOf 40 = .ok (.istore_n 3, 1) := by decide +kernel
theorem dX12_streetsOf_41 : decode cX12_streetsOf 41 = .ok (.iconst 0, 1) := by decide +kernel
theorem dX12_streetsOf_42 : decode cX12_streetsOf 42 = .ok (.istore 4, 2) := by decide +kernel
theorem dX12_streetsOf_44 : decode cX12_streetsOf 44 = .ok (.iload 4, 2) := by decide +kernel
theorem dX12_streetsOf_46 : decode cX12_streetsOf 46 = .ok (.bipush 6, 2) := by decide +kernel
theorem dX12_streetsOf_48 : decode cX12_streetsOf 48 = .ok (.if_icmp .ge 18, 3) := by decide +kernel
theorem dX12_streetsOf_51 : decode cX12_streetsOf 51 = .ok (.iload_n 3, 1) := by decide +kernel
theorem dX12_streetsOf_52 : decode cX12_streetsOf 52 = .ok (.iload_n 2, 1) := by decide +kernel
theorem dX12_streetsOf_53 : decode cX12_streetsOf 53 = .ok (.iload 4, 2) := by decide +kernel
theorem dX12_streetsOf_55 : decode cX12_streetsOf 55 = .ok (.ishr, 1) := by decide +kernel
theorem dX12_streetsOf_56 : decode cX12_streetsOf 56 = .ok (.iconst 1, 1) := by decide +kernel
theorem dX12_streetsOf_57 : decode cX12_streetsOf 57 = .ok (.iand, 1) := by decide +kernel
theorem dX12_streetsOf_58 : decode cX12_streetsOf 58 = .ok (.iadd, 1) := by decide +kernel
theorem dX12_streetsOf_59 : decode cX12_streetsOf 59 = .ok (.istore_n 3, 1) := by decide +kernel
theorem dX12_streetsOf_60 : decode cX12_streetsOf 60 = .ok (.iinc 4 1, 3) := by decide +kernel
theorem dX12_streetsOf_63 : decode cX12_streetsOf 63 = .ok (.goto (-19), 3) := by decide +kernel
theorem dX12_streetsOf_66 : decode cX12_streetsOf 66 = .ok (.iload_n 3, 1) := by decide +kernel
theorem dX12_streetsOf_67 : decode cX12_streetsOf 67 = .ok (.ireturn, 1) := by decide +kernel
theorem dX12_isChosen_0 : decode cX12_isChosen 0 = .ok (.iconst 0, 1) := by decide +kernel
theorem dX12_isChosen_1 : decode cX12_isChosen 1 = .ok (.istore_n 2, 1) := by decide +kernel
theorem dX12_isChosen_2 : decode cX12_isChosen 2 = .ok (.iload_n 2, 1) := by decide +kernel
theorem dX12_isChosen_3 : decode cX12_isChosen 3 = .ok (.aload_n 0, 1) := by decide +kernel
theorem dX12_isChosen_4 : decode cX12_isChosen 4 = .ok (.getfield 250, 3) := by decide +kernel
theorem dX12_isChosen_7 : decode cX12_isChosen 7 = .ok (.if_icmp .ge 21, 3) := by decide +kernel
theorem dX12_isChosen_10 : decode cX12_isChosen 10 = .ok (.aload_n 0, 1) := by decide +kernel
theorem dX12_isChosen_11 : decode cX12_isChosen 11 = .ok (.getfield 121, 3) := by decide +kernel
theorem dX12_isChosen_14 : decode cX12_isChosen 14 = .ok (.iload_n 2, 1) := by decide +kernel
theorem dX12_isChosen_15 : decode cX12_isChosen 15 = .ok (.iaload, 1) := by decide +kernel
theorem dX12_isChosen_16 : decode cX12_isChosen 16 = .ok (.iload_n 1, 1) := by decide +kernel
theorem dX12_isChosen_17 : decode cX12_isChosen 17 = .ok (.if_icmp .ne 5, 3) := by decide +kernel
theorem dX12_isChosen_20 : decode cX12_isChosen 20 = .ok (.iconst 1, 1) := by decide +kernel
theorem dX12_isChosen_21 : decode cX12_isChosen 21 = .ok (.ireturn, 1) := by decide +kernel
theorem dX12_isChosen_22 : decode cX12_isChosen 22 = .ok (.iinc 2 1, 3) := by decide +kernel
theorem dX12_isChosen_25 : decode cX12_isChosen 25 = .ok (.goto (-23), 3) := by decide +kernel
theorem dX12_isChosen_28 : decode cX12_isChosen 28 = .ok (.iconst 0, 1) := by decide +kernel
theorem dX12_isChosen_29 : decode cX12_isChosen 29 = .ok (.ireturn, 1) := by decide +kernel
theorem dX12_choose_0 : decode cX12_choose 0 = .ok (.aload_n 0, 1) := by decide +kernel
theorem dX12_choose_1 : decode cX12_choose 1 = .ok (.iload_n 1, 1) := by decide +kernel
theorem dX12_choose_2 : decode cX12_choose 2 = .ok (.iload_n 2, 1) := by decide +kernel
theorem dX12_choose_3 : decode cX12_choose 3 = .ok (.invokevirtual 253, 3) := by decide +kernel
theorem dX12_choose_6 : decode cX12_choose 6 = .ok (.aload_n 0, 1) := by decide +kernel
theorem dX12_choose_7 : decode cX12_choose 7 = .ok (.iconst 0, 1) := by decide +kernel
theorem dX12_choose_8 : decode cX12_choose 8 = .ok (.putfield 250, 3) := by decide +kernel
theorem dX12_choose_11 : decode cX12_choose 11 = .ok (.iconst 0, 1) := by decide +kernel
theorem dX12_choose_12 : decode cX12_choose 12 = .ok (.istore_n 3, 1) := by decide +kernel
theorem dX12_choose_13 : decode cX12_choose 13 = .ok (.iload_n 3, 1) := by decide +kernel
theorem dX12_choose_14 : decode cX12_choose 14 = .ok (.iconst 2, 1) := by decide +kernel
theorem dX12_choose_15 : decode cX12_choose 15 = .ok (.if_icmp .ge 143, 3) := by decide +kernel
theorem dX12_choose_18 : decode cX12_choose 18 = .ok (.iconst 0, 1) := by decide +kernel
theorem dX12_choose_19 : decode cX12_choose 19 = .ok (.istore 4, 2) := by decide +kernel
theorem dX12_choose_21 : decode cX12_choose 21 = .ok (.iload 4, 2) := by decide +kernel
theorem dX12_choose_23 : decode cX12_choose 23 = .ok (.aload_n 0, 1) := by decide +kernel
theorem dX12_choose_24 : decode cX12_choose 24 = .ok (.getfield 240, 3) := by decide +kernel
theorem dX12_choose_27 : decode cX12_choose 27 = .ok (.if_icmp .ge 125, 3) := by decide +kernel
theorem dX12_choose_30 : decode cX12_choose 30 = .ok (.aload_n 0, 1) := by decide +kernel
theorem dX12_choose_31 : decode cX12_choose 31 = .ok (.iload_n 1, 1) := by decide +kernel
theorem dX12_choose_32 : decode cX12_choose 32 = .ok (.invokevirtual 257, 3) := by decide +kernel
theorem dX12_choose_35 : decode cX12_choose 35 = .ok (.istore 5, 2) := by decide +kernel
theorem dX12_choose_37 : decode cX12_choose 37 = .ok (.aload_n 0, 1) := by decide +kernel
theorem dX12_choose_38 : decode cX12_choose 38 = .ok (.getfield 250, 3) := by decide +kernel
theorem dX12_choose_41 : decode cX12_choose 41 = .ok (.aload_n 0, 1) := by decide +kernel
theorem dX12_choose_42 : decode cX12_choose 42 = .ok (.getfield 38, 3) := by decide +kernel
theorem dX12_choose_45 : decode cX12_choose 45 = .ok (.iload_n 1, 1) := by decide +kernel
theorem dX12_choose_46 : decode cX12_choose 46 = .ok (.iaload, 1) := by decide +kernel
theorem dX12_choose_47 : decode cX12_choose 47 = .ok (.if_icmp .ge 37, 3) := by decide +kernel
theorem dX12_choose_50 : decode cX12_choose 50 = .ok (.aload_n 0, 1) := by decide +kernel
theorem dX12_choose_51 : decode cX12_choose 51 = .ok (.aload_n 0, 1) := by decide +kernel
theorem dX12_choose_52 : decode cX12_choose 52 = .ok (.getfield 118, 3) := by decide +kernel
theorem dX12_choose_55 : decode cX12_choose 55 = .ok (.iload 4, 2) := by decide +kernel
theorem dX12_choose_57 : decode cX12_choose 57 = .ok (.iaload, 1) := by decide +kernel
theorem dX12_choose_58 : decode cX12_choose 58 = .ok (.invokevirtual 260, 3) := by decide +kernel
theorem dX12_choose_61 : decode cX12_choose 61 = .ok (.ifCond .ne 23, 3) := by decide +kernel
theorem dX12_choose_64 : decode cX12_choose 64 = .ok (.iload_n 3, 1) := by decide +kernel
theorem dX12_choose_65 : decode cX12_choose 65 = .ok (.iconst 1, 1) := by decide +kernel
theorem dX12_choose_66 : decode cX12_choose 66 = .ok (.if_icmp .eq 14, 3) := by decide +kernel
theorem dX12_choose_69 : decode cX12_choose 69 = .ok (.iload 5, 2) := by decide +kernel
theorem dX12_choose_71 : decode cX12_choose 71 = .ok (.aload_n 0, 1) := by decide +kernel
theorem dX12_choose_72 : decode cX12_choose 72 = .ok (.getfield 41, 3) := by decide +kernel
theorem dX12_choose_75 : decode cX12_choose 75 = .ok (.iload_n 1, 1) := by decide +kernel
theorem dX12_choose_76 : decode cX12_choose 76 = .ok (.iaload, 1) := by decide +kernel
theorem dX12_choose_77 : decode cX12_choose 77 = .ok (.if_icmp .ge 7, 3) := by decide +kernel
theorem dX12_choose_80 : decode cX12_choose 80 = .ok (.iconst 1, 1) := by decide +kernel
theorem dX12_choose_81 : decode cX12_choose 81 = .ok (.goto 4, 3) := by decide +kernel
theorem dX12_choose_84 : decode cX12_choose 84 = .ok (.iconst 0, 1) := by decide +kernel
theorem dX12_choose_85 : decode cX12_choose 85 = .ok (.istore 6, 2) := by decide +kernel
theorem dX12_choose_87 : decode cX12_choose 87 = .ok (.iload 6, 2) := by decide +kernel
theorem dX12_choose_89 : decode cX12_choose 89 = .ok (.ifCond .eq 57, 3) := by decide +kernel
theorem dX12_choose_92 : decode cX12_choose 92 = .ok (.aload_n 0, 1) := by decide +kernel
theorem dX12_choose_93 : decode cX12_choose 93 = .ok (.getfield 121, 3) := by decide +kernel
theorem dX12_choose_96 : decode cX12_choose 96 = .ok (.aload_n 0, 1) := by decide +kernel
theorem dX12_choose_97 : decode cX12_choose 97 = .ok (.getfield 250, 3) := by decide +kernel
theorem dX12_choose_100 : decode cX12_choose 100 = .ok (.aload_n 0, 1) := by decide +kernel
theorem dX12_choose_101 : decode cX12_choose 101 = .ok (.getfield 118, 3) := by decide +kernel
theorem dX12_choose_104 : decode cX12_choose 104 = .ok (.iload 4, 2) := by decide +kernel
theorem dX12_choose_106 : decode cX12_choose 106 = .ok (.iaload, 1) := by decide +kernel
theorem dX12_choose_107 : decode cX12_choose 107 = .ok (.iastore, 1) := by decide +kernel
theorem dX12_choose_108 : decode cX12_choose 108 = .ok (.aload_n 0, 1) := by decide +kernel
theorem dX12_choose_109 : decode cX12_choose 109 = .ok (.dup, 1) := by decide +kernel
theorem dX12_choose_110 : decode cX12_choose 110 = .ok (.getfield 250, 3) := by decide +kernel
theorem dX12_choose_113 : decode cX12_choose 113 = .ok (.iconst 1, 1) := by decide +kernel
theorem dX12_choose_114 : decode cX12_choose 114 = .ok (.iadd, 1) := by decide +kernel
theorem dX12_choose_115 : decode cX12_choose 115 = .ok (.putfield 250, 3) := by decide +kernel
theorem dX12_choose_118 : decode cX12_choose 118 = .ok (.aload_n 0, 1) := by decide +kernel
theorem dX12_choose_119 : decode cX12_choose 119 = .ok (.dup, 1) := by decide +kernel
theorem dX12_choose_120 : decode cX12_choose 120 = .ok (.getfield 250, 3) := by decide +kernel
theorem dX12_choose_123 : decode cX12_choose 123 = .ok (.iload_n 3, 1) := by decide +kernel
theorem dX12_choose_124 : decode cX12_choose 124 = .ok (.ifCond .ne 17, 3) := by decide +kernel
theorem dX12_choose_127 : decode cX12_choose 127 = .ok (.aload_n 0, 1) := by decide +kernel
theorem dX12_choose_128 : decode cX12_choose 128 = .ok (.iload_n 1, 1) := by decide +kernel
theorem dX12_choose_129 : decode cX12_choose 129 = .ok (.invokevirtual 257, 3) := by decide +kernel
theorem dX12_choose_132 : decode cX12_choose 132 = .ok (.iload 5, 2) := by decide +kernel
theorem dX12_choose_134 : decode cX12_choose 134 = .ok (.if_icmp .ne 7, 3) := by decide +kernel
theorem dX12_choose_137 : decode cX12_choose 137 = .ok (.iconst 1, 1) := by decide +kernel
theorem dX12_choose_138 : decode cX12_choose 138 = .ok (.goto 4, 3) := by decide +kernel
theorem dX12_choose_141 : decode cX12_choose 141 = .ok (.iconst 0, 1) := by decide +kernel
theorem dX12_choose_142 : decode cX12_choose 142 = .ok (.isub, 1) := by decide +kernel
theorem dX12_choose_143 : decode cX12_choose 143 = .ok (.putfield 250, 3) := by decide +kernel
theorem dX12_choose_146 : decode cX12_choose 146 = .ok (.iinc 4 1, 3) := by decide +kernel
theorem dX12_choose_149 : decode cX12_choose 149 = .ok (.goto (-128), 3) := by decide +kernel
theorem dX12_choose_152 : decode cX12_choose 152 = .ok (.iinc 3 1, 3) := by decide +kernel
theorem dX12_choose_155 : decode cX12_choose 155 = .ok (.goto (-142), 3) := by decide +kernel
theorem dX12_choose_158 : decode cX12_choose 158 = .ok (.return_, 1) := by decide +kernel
theorem dX12_chooseName_0 : decode cX12_chooseName 0 = .ok (.aload_n 0, 1) := by decide +kernel
theorem dX12_chooseName_1 : decode cX12_chooseName 1 = .ok (.iload_n 1, 1) := by decide +kernel
theorem dX12_chooseName_2 : decode cX12_chooseName 2 = .ok (.aload_n 0, 1) := by decide +kernel
theorem dX12_chooseName_3 : decode cX12_chooseName 3 = .ok (.iload_n 2, 1) := by decide +kernel
theorem dX12_chooseName_4 : decode cX12_chooseName 4 = .ok (.aload_n 0, 1) := by decide +kernel
theorem dX12_chooseName_5 : decode cX12_chooseName 5 = .ok (.getfield 35, 3) := by decide +kernel
theorem dX12_chooseName_8 : decode cX12_chooseName 8 = .ok (.iload_n 1, 1) := by decide +kernel
theorem dX12_chooseName_9 : decode cX12_chooseName 9 = .ok (.iaload, 1) := by decide +kernel
theorem dX12_chooseName_10 : decode cX12_chooseName 10 = .ok (.invokevirtual 162, 3) := by decide +kernel
theorem dX12_chooseName_13 : decode cX12_chooseName 13 = .ok (.invokevirtual 263, 3) := by decide +kernel
theorem dX12_chooseName_16 : decode cX12_chooseName 16 = .ok (.return_, 1) := by decide +kernel
theorem dX12_bits_0 : decode cX12_bits 0 = .ok (.iconst 0, 1) := by decide +kernel
theorem dX12_bits_1 : decode cX12_bits 1 = .ok (.istore_n 1, 1) := by decide +kernel
theorem dX12_bits_2 : decode cX12_bits 2 = .ok (.iconst 0, 1) := by decide +kernel
theorem dX12_bits_3 : decode cX12_bits 3 = .ok (.istore_n 2, 1) := by decide +kernel
theorem dX12_bits_4 : decode cX12_bits 4 = .ok (.iload_n 2, 1) := by decide +kernel
theorem dX12_bits_5 : decode cX12_bits 5 = .ok (.aload_n 0, 1) := by decide +kernel
theorem dX12_bits_6 : decode cX12_bits 6 = .ok (.getfield 250, 3) := by decide +kernel
theorem dX12_bits_9 : decode cX12_bits 9 = .ok (.if_icmp .ge 20, 3) := by decide +kernel
theorem dX12_bits_12 : decode cX12_bits 12 = .ok (.iload_n 1, 1) := by decide +kernel
theorem dX12_bits_13 : decode cX12_bits 13 = .ok (.iconst 1, 1) := by decide +kernel
theorem dX12_bits_14 : decode cX12_bits 14 = .ok (.aload_n 0, 1) := by decide +kernel
theorem dX12_bits_15 : decode cX12_bits 15 = .ok (.getfield 121, 3) := by decide +kernel
theorem dX12_bits_18 : decode cX12_bits 18 = .ok (.iload_n 2, 1) := by decide +kernel
theorem dX12_bits_19 : decode cX12_bits 19 = .ok (.iaload, 1) := by decide +kernel
theorem dX12_bits_20 : decode cX12_bits 20 = .ok (.ishl, 1) := by decide +kernel
theorem dX12_bits_21 : decode cX12_bits 21 = .ok (.ior, 1) := by decide +kernel
theorem dX12_bits_22 : decode cX12_bits 22 = .ok (.istore_n 1, 1) := by decide +kernel
theorem dX12_bits_23 : decode cX12_bits 23 = .ok (.iinc 2 1, 3) := by decide +kernel
theorem dX12_bits_26 : decode cX12_bits 26 = .ok (.goto (-22), 3) := by decide +kernel
theorem dX12_bits_29 : decode cX12_bits 29 = .ok (.iload_n 1, 1) := by decide +kernel
theorem dX12_bits_30 : decode cX12_bits 30 = .ok (.ireturn, 1) := by decide +kernel
theorem dX12_seat_8 : decode cX12_seat 8 = .ok (.iload_n 2, 1) := by decide +kernel
theorem dX12_seat_9 : decode cX12_seat 9 = .ok (.iconst 0, 1) := by decide +kernel
theorem dX12_seat_10 : decode cX12_seat 10 = .ok (.sipush 999, 3) := by decide +kernel
theorem dX12_seat_13 : decode cX12_seat 13 = .ok (.invokestatic 136, 3) := by decide +kernel
theorem dX12_seat_16 : decode cX12_seat 16 = .ok (.ifCond .ne 7, 3) := by decide +kernel
theorem dX12_seat_23 : decode cX12_seat 23 = .ok (.aload_n 0, 1) := by decide +kernel
theorem dX12_seat_24 : decode cX12_seat 24 = .ok (.getfield 62, 3) := by decide +kernel
theorem dX12_seat_27 : decode cX12_seat 27 = .ok (.sipush 1000, 3) := by decide +kernel
theorem dX12_seat_30 : decode cX12_seat 30 = .ok (.iload_n 1, 1) := by decide +kernel
theorem dX12_seat_31 : decode cX12_seat 31 = .ok (.imul, 1) := by decide +kernel
theorem dX12_seat_32 : decode cX12_seat 32 = .ok (.iload_n 2, 1) := by decide +kernel
theorem dX12_seat_33 : decode cX12_seat 33 = .ok (.iadd, 1) := by decide +kernel
theorem dX12_seat_34 : decode cX12_seat 34 = .ok (.iaload, 1) := by decide +kernel
theorem dX12_seat_35 : decode cX12_seat 35 = .ok (.iconst (-1), 1) := by decide +kernel
theorem dX12_seat_36 : decode cX12_seat 36 = .ok (.if_icmp .ne 8, 3) := by decide +kernel
theorem dX12_seat_39 : decode cX12_seat 39 = .ok (.bipush (-2), 2) := by decide +kernel
theorem dX12_seat_41 : decode cX12_seat 41 = .ok (.goto 15, 3) := by decide +kernel
theorem dX12_seat_44 : decode cX12_seat 44 = .ok (.aload_n 0, 1) := by decide +kernel
theorem dX12_seat_45 : decode cX12_seat 45 = .ok (.getfield 62, 3) := by decide +kernel
theorem dX12_seat_48 : decode cX12_seat 48 = .ok (.sipush 1000, 3) := by decide +kernel
theorem dX12_seat_51 : decode cX12_seat 51 = .ok (.iload_n 1, 1) := by decide +kernel
theorem dX12_seat_52 : decode cX12_seat 52 = .ok (.imul, 1) := by decide +kernel
theorem dX12_seat_53 : decode cX12_seat 53 = .ok (.iload_n 2, 1) := by decide +kernel
theorem dX12_seat_54 : decode cX12_seat 54 = .ok (.iadd, 1) := by decide +kernel
theorem dX12_seat_55 : decode cX12_seat 55 = .ok (.iaload, 1) := by decide +kernel
theorem dX12_picked_8 : decode cX12_picked 8 = .ok (.iload_n 2, 1) := by decide +kernel
theorem dX12_picked_9 : decode cX12_picked 9 = .ok (.iconst 0, 1) := by decide +kernel
theorem dX12_picked_10 : decode cX12_picked 10 = .ok (.sipush 999, 3) := by decide +kernel
theorem dX12_picked_13 : decode cX12_picked 13 = .ok (.invokestatic 136, 3) := by decide +kernel
theorem dX12_picked_16 : decode cX12_picked 16 = .ok (.ifCond .ne 5, 3) := by decide +kernel
theorem dX12_picked_21 : decode cX12_picked 21 = .ok (.aload_n 0, 1) := by decide +kernel
theorem dX12_picked_22 : decode cX12_picked 22 = .ok (.iload_n 1, 1) := by decide +kernel
theorem dX12_picked_23 : decode cX12_picked 23 = .ok (.iload_n 2, 1) := by decide +kernel
theorem dX12_picked_24 : decode cX12_picked 24 = .ok (.invokevirtual 253, 3) := by decide +kernel
theorem dX12_picked_27 : decode cX12_picked 27 = .ok (.iload_n 3, 1) := by decide +kernel
theorem dX12_picked_28 : decode cX12_picked 28 = .ok (.iconst 0, 1) := by decide +kernel
theorem dX12_picked_29 : decode cX12_picked 29 = .ok (.aload_n 0, 1) := by decide +kernel
theorem dX12_picked_30 : decode cX12_picked 30 = .ok (.getfield 240, 3) := by decide +kernel
theorem dX12_picked_33 : decode cX12_picked 33 = .ok (.iconst 1, 1) := by decide +kernel
theorem dX12_picked_34 : decode cX12_picked 34 = .ok (.isub, 1) := by decide +kernel
theorem dX12_picked_35 : decode cX12_picked 35 = .ok (.invokestatic 136, 3) := by decide +kernel
theorem dX12_picked_38 : decode cX12_picked 38 = .ok (.ifCond .eq 12, 3) := by decide +kernel
theorem dX12_picked_41 : decode cX12_picked 41 = .ok (.aload_n 0, 1) := by decide +kernel
theorem dX12_picked_42 : decode cX12_picked 42 = .ok (.getfield 118, 3) := by decide +kernel
theorem dX12_picked_45 : decode cX12_picked 45 = .ok (.iload_n 3, 1) := by decide +kernel
theorem dX12_picked_46 : decode cX12_picked 46 = .ok (.iaload, 1) := by decide +kernel
theorem dX12_picked_47 : decode cX12_picked 47 = .ok (.goto 4, 3) := by decide +kernel
theorem dX12_picked_50 : decode cX12_picked 50 = .ok (.iconst (-1), 1) := by decide +kernel
theorem dX12_picked_51 : decode cX12_picked 51 = .ok (.ireturn, 1) := by decide +kernel
theorem dX12_keeperOf_8 : decode cX12_keeperOf 8 = .ok (.aload_n 0, 1) := by decide +kernel
theorem dX12_keeperOf_9 : decode cX12_keeperOf 9 = .ok (.iload_n 2, 1) := by decide +kernel
theorem dX12_keeperOf_10 : decode cX12_keeperOf 10 = .ok (.invokevirtual 158, 3) := by decide +kernel
theorem dX12_keeperOf_13 : decode cX12_keeperOf 13 = .ok (.ifCond .ne 5, 3) := by decide +kernel
theorem dX12_keeperOf_18 : decode cX12_keeperOf 18 = .ok (.aload_n 0, 1) := by decide +kernel
theorem dX12_keeperOf_19 : decode cX12_keeperOf 19 = .ok (.iload_n 1, 1) := by decide +kernel
theorem dX12_keeperOf_20 : decode cX12_keeperOf 20 = .ok (.iload_n 2, 1) := by decide +kernel
theorem dX12_keeperOf_21 : decode cX12_keeperOf 21 = .ok (.invokevirtual 269, 3) := by decide +kernel
theorem dX12_keeperOf_24 : decode cX12_keeperOf 24 = .ok (.iload_n 3, 1) := by decide +kernel
theorem dX12_keeperOf_25 : decode cX12_keeperOf 25 = .ok (.iconst (-1), 1) := by decide +kernel
theorem dX12_keeperOf_26 : decode cX12_keeperOf 26 = .ok (.if_icmp .ne 10, 3) := by decide +kernel
theorem dX12_keeperOf_29 : decode cX12_keeperOf 29 = .ok (.aload_n 0, 1) := by decide +kernel
theorem dX12_keeperOf_30 : decode cX12_keeperOf 30 = .ok (.getfield 250, 3) := by decide +kernel
theorem dX12_keeperOf_33 : decode cX12_keeperOf 33 = .ok (.goto 27, 3) := by decide +kernel
theorem dX12_keeperOf_36 : decode cX12_keeperOf 36 = .ok (.iload_n 3, 1) := by decide +kernel
theorem dX12_keeperOf_37 : decode cX12_keeperOf 37 = .ok (.iconst 0, 1) := by decide +kernel
theorem dX12_keeperOf_38 : decode cX12_keeperOf 38 = .ok (.aload_n 0, 1) := by decide +kernel
theorem dX12_keeperOf_39 : decode cX12_keeperOf 39 = .ok (.getfield 250, 3) := by decide +kernel
theorem dX12_keeperOf_42 : decode cX12_keeperOf 42 = .ok (.iconst 1, 1) := by decide +kernel
theorem dX12_keeperOf_43 : decode cX12_keeperOf 43 = .ok (.isub, 1) := by decide +kernel
theorem dX12_keeperOf_44 : decode cX12_keeperOf 44 = .ok (.invokestatic 136, 3) := by decide +kernel
theorem dX12_keeperOf_47 : decode cX12_keeperOf 47 = .ok (.ifCond .eq 12, 3) := by decide +kernel
theorem dX12_keeperOf_50 : decode cX12_keeperOf 50 = .ok (.aload_n 0, 1) := by decide +kernel
theorem dX12_keeperOf_51 : decode cX12_keeperOf 51 = .ok (.getfield 121, 3) := by decide +kernel
theorem dX12_keeperOf_54 : decode cX12_keeperOf 54 = .ok (.iload_n 3, 1) := by decide +kernel
theorem dX12_keeperOf_55 : decode cX12_keeperOf 55 = .ok (.iaload, 1) := by decide +kernel
theorem dX12_keeperOf_56 : decode cX12_keeperOf 56 = .ok (.goto 4, 3) := by decide +kernel
theorem dX12_keeperOf_59 : decode cX12_keeperOf 59 = .ok (.iconst (-1), 1) := by decide +kernel
theorem dX12_keeperOf_60 : decode cX12_keeperOf 60 = .ok (.ireturn, 1) := by decide +kernel
theorem dX12_tooFew_10 : decode cX12_tooFew 10 = .ok (.iconst 0, 1) := by decide +kernel
theorem dX12_tooFew_11 : decode cX12_tooFew 11 = .ok (.istore_n 2, 1) := by decide +kernel
theorem dX12_tooFew_12 : decode cX12_tooFew 12 = .ok (.iconst 0, 1) := by decide +kernel
theorem dX12_tooFew_13 : decode cX12_tooFew 13 = .ok (.istore_n 3, 1) := by decide +kernel
theorem dX12_tooFew_14 : decode cX12_tooFew 14 = .ok (.iload_n 3, 1) := by decide +kernel
theorem dX12_tooFew_15 : decode cX12_tooFew 15 = .ok (.aload_n 0, 1) := by decide +kernel
theorem dX12_tooFew_16 : decode cX12_tooFew 16 = .ok (.getfield 133, 3) := by decide +kernel
theorem dX12_tooFew_19 : decode cX12_tooFew 19 = .ok (.if_icmp .ge 37, 3) := by decide +kernel
theorem dX12_tooFew_22 : decode cX12_tooFew 22 = .ok (.aload_n 0, 1) := by decide +kernel
theorem dX12_tooFew_23 : decode cX12_tooFew 23 = .ok (.iload_n 1, 1) := by decide +kernel
theorem dX12_tooFew_24 : decode cX12_tooFew 24 = .ok (.iload_n 3, 1) := by decide +kernel
theorem dX12_tooFew_25 : decode cX12_tooFew 25 = .ok (.invokevirtual 269, 3) := by decide +kernel
theorem dX12_tooFew_28 : decode cX12_tooFew 28 = .ok (.iload_n 2, 1) := by decide +kernel
theorem dX12_tooFew_29 : decode cX12_tooFew 29 = .ok (.aload_n 0, 1) := by decide +kernel
theorem dX12_tooFew_30 : decode cX12_tooFew 30 = .ok (.iload_n 1, 1) := by decide +kernel
theorem dX12_tooFew_31 : decode cX12_tooFew 31 = .ok (.invokevirtual 257, 3) := by decide +kernel
theorem dX12_tooFew_34 : decode cX12_tooFew 34 = .ok (.aload_n 0, 1) := by decide +kernel
theorem dX12_tooFew_35 : decode cX12_tooFew 35 = .ok (.getfield 41, 3) := by decide +kernel
theorem dX12_tooFew_38 : decode cX12_tooFew 38 = .ok (.iload_n 1, 1) := by decide +kernel
theorem dX12_tooFew_39 : decode cX12_tooFew 39 = .ok (.iaload, 1) := by decide +kernel
theorem dX12_tooFew_40 : decode cX12_tooFew 40 = .ok (.if_icmp .ge 7, 3) := by decide +kernel
theorem dX12_tooFew_43 : decode cX12_tooFew 43 = .ok (.iconst 1, 1) := by decide +kernel
theorem dX12_tooFew_44 : decode cX12_tooFew 44 = .ok (.goto 4, 3) := by decide +kernel
theorem dX12_tooFew_47 : decode cX12_tooFew 47 = .ok (.iconst 0, 1) := by decide +kernel
theorem dX12_tooFew_48 : decode cX12_tooFew 48 = .ok (.iadd, 1) := by decide +kernel
theorem dX12_tooFew_49 : decode cX12_tooFew 49 = .ok (.istore_n 2, 1) := by decide +kernel
theorem dX12_tooFew_50 : decode cX12_tooFew 50 = .ok (.iinc 3 1, 3) := by decide +kernel
theorem dX12_tooFew_53 : decode cX12_tooFew 53 = .ok (.goto (-39), 3) := by decide +kernel
theorem dX12_tooFew_56 : decode cX12_tooFew 56 = .ok (.iload_n 2, 1) := by decide +kernel
theorem dX12_tooFew_57 : decode cX12_tooFew 57 = .ok (.ireturn, 1) := by decide +kernel
theorem dX12_shareOf_0 : decode cX12_shareOf 0 = .ok (.iconst 0, 1) := by decide +kernel
theorem dX12_shareOf_1 : decode cX12_shareOf 1 = .ok (.istore_n 3, 1) := by decide +kernel
theorem dX12_shareOf_2 : decode cX12_shareOf 2 = .ok (.iconst 0, 1) := by decide +kernel
theorem dX12_shareOf_3 : decode cX12_shareOf 3 = .ok (.istore 4, 2) := by decide +kernel
theorem dX12_shareOf_5 : decode cX12_shareOf 5 = .ok (.iload 4, 2) := by decide +kernel
theorem dX12_shareOf_7 : decode cX12_shareOf 7 = .ok (.aload_n 0, 1) := by decide +kernel
theorem dX12_shareOf_8 : decode cX12_shareOf 8 = .ok (.getfield 133, 3) := by decide +kernel
theorem dX12_shareOf_11 : decode cX12_shareOf 11 = .ok (.if_icmp .ge 44, 3) := by decide +kernel
theorem dX12_shareOf_14 : decode cX12_shareOf 14 = .ok (.aload_n 0, 1) := by decide +kernel
theorem dX12_shareOf_15 : decode cX12_shareOf 15 = .ok (.iload_n 1, 1) := by decide +kernel
theorem dX12_shareOf_16 : decode cX12_shareOf 16 = .ok (.aload_n 0, 1) := by decide +kernel
theorem dX12_shareOf_17 : decode cX12_shareOf 17 = .ok (.iload 4, 2) := by decide +kernel
theorem dX12_shareOf_19 : decode cX12_shareOf 19 = .ok (.aload_n 0, 1) := by decide +kernel
theorem dX12_shareOf_20 : decode cX12_shareOf 20 = .ok (.getfield 35, 3) := by decide +kernel
theorem dX12_shareOf_23 : decode cX12_shareOf 23 = .ok (.iload_n 1, 1) := by decide +kernel
theorem dX12_shareOf_24 : decode cX12_shareOf 24 = .ok (.iaload, 1) := by decide +kernel
theorem dX12_shareOf_25 : decode cX12_shareOf 25 = .ok (.invokevirtual 162, 3) := by decide +kernel
theorem dX12_shareOf_28 : decode cX12_shareOf 28 = .ok (.invokevirtual 253, 3) := by decide +kernel
theorem dX12_shareOf_31 : decode cX12_shareOf 31 = .ok (.iload_n 3, 1) := by decide +kernel
theorem dX12_shareOf_32 : decode cX12_shareOf 32 = .ok (.aload_n 0, 1) := by decide +kernel
theorem dX12_shareOf_33 : decode cX12_shareOf 33 = .ok (.getfield 118, 3) := by decide +kernel
theorem dX12_shareOf_36 : decode cX12_shareOf 36 = .ok (.iconst 0, 1) := by decide +kernel
theorem dX12_shareOf_37 : decode cX12_shareOf 37 = .ok (.iaload, 1) := by decide +kernel
theorem dX12_shareOf_38 : decode cX12_shareOf 38 = .ok (.iload_n 2, 1) := by decide +kernel
theorem dX12_shareOf_39 : decode cX12_shareOf 39 = .ok (.if_icmp .ne 7, 3) := by decide +kernel
theorem dX12_shareOf_42 : decode cX12_shareOf 42 = .ok (.iconst 1, 1) := by decide +kernel
theorem dX12_shareOf_43 : decode cX12_shareOf 43 = .ok (.goto 4, 3) := by decide +kernel
theorem dX12_shareOf_46 : decode cX12_shareOf 46 = .ok (.iconst 0, 1) := by decide +kernel
theorem dX12_shareOf_47 : decode cX12_shareOf 47 = .ok (.iadd, 1) := by decide +kernel
theorem dX12_shareOf_48 : decode cX12_shareOf 48 = .ok (.istore_n 3, 1) := by decide +kernel
theorem dX12_shareOf_49 : decode cX12_shareOf 49 = .ok (.iinc 4 1, 3) := by decide +kernel
theorem dX12_shareOf_52 : decode cX12_shareOf 52 = .ok (.goto (-47), 3) := by decide +kernel
theorem dX12_shareOf_55 : decode cX12_shareOf 55 = .ok (.iload_n 3, 1) := by decide +kernel
theorem dX12_shareOf_56 : decode cX12_shareOf 56 = .ok (.ireturn, 1) := by decide +kernel
theorem dX12_findOdds_0 : decode cX12_findOdds 0 = .ok (.iconst 0, 1) := by decide +kernel
theorem dX12_findOdds_1 : decode cX12_findOdds 1 = .ok (.istore_n 2, 1) := by decide +kernel
theorem dX12_findOdds_2 : decode cX12_findOdds 2 = .ok (.iload_n 2, 1) := by decide +kernel
theorem dX12_findOdds_3 : decode cX12_findOdds 3 = .ok (.bipush 12, 2) := by decide +kernel
theorem dX12_findOdds_5 : decode cX12_findOdds 5 = .ok (.if_icmp .ge 16, 3) := by decide +kernel
theorem dX12_findOdds_8 : decode cX12_findOdds 8 = .ok (.aload_n 0, 1) := by decide +kernel
theorem dX12_findOdds_9 : decode cX12_findOdds 9 = .ok (.getfield 124, 3) := by decide +kernel
theorem dX12_findOdds_12 : decode cX12_findOdds 12 = .ok (.iload_n 2, 1) := by decide +kernel
theorem dX12_findOdds_13 : decode cX12_findOdds 13 = .ok (.iconst 0, 1) := by decide +kernel
theorem dX12_findOdds_14 : decode cX12_findOdds 14 = .ok (.iastore, 1) := by decide +kernel
theorem dX12_findOdds_15 : decode cX12_findOdds 15 = .ok (.iinc 2 1, 3) := by decide +kernel
theorem dX12_findOdds_18 : decode cX12_findOdds 18 = .ok (.goto (-16), 3) := by decide +kernel
theorem dX12_findOdds_21 : decode cX12_findOdds 21 = .ok (.iconst 0, 1) := by decide +kernel
theorem dX12_findOdds_22 : decode cX12_findOdds 22 = .ok (.istore_n 2, 1) := by decide +kernel
theorem dX12_findOdds_23 : decode cX12_findOdds 23 = .ok (.iload_n 2, 1) := by decide +kernel
theorem dX12_findOdds_24 : decode cX12_findOdds 24 = .ok (.sipush 1000, 3) := by decide +kernel
theorem dX12_findOdds_27 : decode cX12_findOdds 27 = .ok (.if_icmp .ge 30, 3) := by decide +kernel
theorem dX12_findOdds_30 : decode cX12_findOdds 30 = .ok (.aload_n 0, 1) := by decide +kernel
theorem dX12_findOdds_31 : decode cX12_findOdds 31 = .ok (.iload_n 1, 1) := by decide +kernel
theorem dX12_findOdds_32 : decode cX12_findOdds 32 = .ok (.iload_n 2, 1) := by decide +kernel
theorem dX12_findOdds_33 : decode cX12_findOdds 33 = .ok (.invokevirtual 253, 3) := by decide +kernel
theorem dX12_findOdds_36 : decode cX12_findOdds 36 = .ok (.aload_n 0, 1) := by decide +kernel
theorem dX12_findOdds_37 : decode cX12_findOdds 37 = .ok (.getfield 124, 3) := by decide +kernel
theorem dX12_findOdds_40 : decode cX12_findOdds 40 = .ok (.aload_n 0, 1) := by decide +kernel
theorem dX12_findOdds_41 : decode cX12_findOdds 41 = .ok (.getfield 118, 3) := by decide +kernel
theorem dX12_findOdds_44 : decode cX12_findOdds 44 = .ok (.iconst 0, 1) := by decide +kernel
theorem dX12_findOdds_45 : decode cX12_findOdds 45 = .ok (.iaload, 1) := by decide +kernel
theorem dX12_findOdds_46 : decode cX12_findOdds 46 = .ok (.dup2, 1) := by decide +kernel
theorem dX12_findOdds_47 : decode cX12_findOdds 47 = .ok (.iaload, 1) := by decide +kernel
theorem dX12_findOdds_48 : decode cX12_findOdds 48 = .ok (.iconst 1, 1) := by decide +kernel
theorem dX12_findOdds_49 : decode cX12_findOdds 49 = .ok (.iadd, 1) := by decide +kernel
theorem dX12_findOdds_50 : decode cX12_findOdds 50 = .ok (.iastore, 1) := by decide +kernel
theorem dX12_findOdds_51 : decode cX12_findOdds 51 = .ok (.iinc 2 1, 3) := by decide +kernel
theorem dX12_findOdds_54 : decode cX12_findOdds 54 = .ok (.goto (-31), 3) := by decide +kernel
theorem dX12_findOdds_57 : decode cX12_findOdds 57 = .ok (.return_, 1) := by decide +kernel
theorem dX12_share_8 : decode cX12_share 8 = .ok (.aload_n 0, 1) := by decide +kernel
theorem dX12_share_9 : decode cX12_share 9 = .ok (.iload_n 2, 1) := by decide +kernel
theorem dX12_share_10 : decode cX12_share 10 = .ok (.invokevirtual 166, 3) := by decide +kernel
theorem dX12_share_13 : decode cX12_share 13 = .ok (.ifCond .eq 12, 3) := by decide +kernel
theorem dX12_share_16 : decode cX12_share 16 = .ok (.iload_n 3, 1) := by decide +kernel
theorem dX12_share_17 : decode cX12_share 17 = .ok (.iconst 0, 1) := by decide +kernel
theorem dX12_share_18 : decode cX12_share 18 = .ok (.iconst 1, 1) := by decide +kernel
theorem dX12_share_19 : decode cX12_share 19 = .ok (.invokestatic 136, 3) := by decide +kernel
theorem dX12_share_22 : decode cX12_share 22 = .ok (.ifCond .ne 5, 3) := by decide +kernel
theorem dX12_share_27 : decode cX12_share 27 = .ok (.iload_n 3, 1) := by decide +kernel
theorem dX12_share_28 : decode cX12_share 28 = .ok (.ifCond .ne 10, 3) := by decide +kernel
theorem dX12_share_31 : decode cX12_share 31 = .ok (.aload_n 0, 1) := by decide +kernel
theorem dX12_share_32 : decode cX12_share 32 = .ok (.iload_n 1, 1) := by decide +kernel
theorem dX12_share_33 : decode cX12_share 33 = .ok (.iload_n 2, 1) := by decide +kernel
theorem dX12_share_34 : decode cX12_share 34 = .ok (.invokevirtual 272, 3) := by decide +kernel
theorem dX12_share_37 : decode cX12_share 37 = .ok (.ireturn, 1) := by decide +kernel
theorem dX12_share_38 : decode cX12_share 38 = .ok (.aload_n 0, 1) := by decide +kernel
theorem dX12_share_39 : decode cX12_share 39 = .ok (.iload_n 1, 1) := by decide +kernel
theorem dX12_share_40 : decode cX12_share 40 = .ok (.invokevirtual 275, 3) := by decide +kernel
theorem dX12_share_43 : decode cX12_share 43 = .ok (.aload_n 0, 1) := by decide +kernel
theorem dX12_share_44 : decode cX12_share 44 = .ok (.getfield 124, 3) := by decide +kernel
theorem dX12_share_47 : decode cX12_share 47 = .ok (.iload_n 2, 1) := by decide +kernel
theorem dX12_share_48 : decode cX12_share 48 = .ok (.iaload, 1) := by decide +kernel
theorem dX12_share_49 : decode cX12_share 49 = .ok (.ireturn, 1) := by decide +kernel
theorem dX12_even_0 : decode cX12_even 0 = .ok (.aload_n 0, 1) := by decide +kernel
theorem dX12_even_1 : decode cX12_even 1 = .ok (.iload_n 1, 1) := by decide +kernel
theorem dX12_even_2 : decode cX12_even 2 = .ok (.invokevirtual 275, 3) := by decide +kernel
theorem dX12_even_5 : decode cX12_even 5 = .ok (.sipush 1000, 3) := by decide +kernel
theorem dX12_even_8 : decode cX12_even 8 = .ok (.istore_n 2, 1) := by decide +kernel
theorem dX12_even_9 : decode cX12_even 9 = .ok (.iconst 0, 1) := by decide +kernel
theorem dX12_even_10 : decode cX12_even 10 = .ok (.istore_n 3, 1) := by decide +kernel
theorem dX12_even_11 : decode cX12_even 11 = .ok (.iconst 0, 1) := by decide +kernel
theorem dX12_even_12 : decode cX12_even 12 = .ok (.istore 4, 2) := by decide +kernel
theorem dX12_even_14 : decode cX12_even 14 = .ok (.iload 4, 2) := by decide +kernel
theorem dX12_even_16 : decode cX12_even 16 = .ok (.aload_n 0, 1) := by decide +kernel
theorem dX12_even_17 : decode cX12_even 17 = .ok (.getfield 140, 3) := by decide +kernel
theorem dX12_even_20 : decode cX12_even 20 = .ok (.if_icmp .ge 65, 3) := by decide +kernel
theorem dX12_even_23 : decode cX12_even 23 = .ok (.aload_n 0, 1) := by decide +kernel
theorem dX12_even_24 : decode cX12_even 24 = .ok (.iload_n 1, 1) := by decide +kernel
theorem dX12_even_25 : decode cX12_even 25 = .ok (.iload 4, 2) := by decide +kernel
theorem dX12_even_27 : decode cX12_even 27 = .ok (.invokevirtual 223, 3) := by decide +kernel
theorem dX12_even_30 : decode cX12_even 30 = .ok (.ifCond .eq 49, 3) := by decide +kernel
theorem dX12_even_33 : decode cX12_even 33 = .ok (.aload_n 0, 1) := by decide +kernel
theorem dX12_even_34 : decode cX12_even 34 = .ok (.getfield 124, 3) := by decide +kernel
theorem dX12_even_37 : decode cX12_even 37 = .ok (.iload 4, 2) := by decide +kernel
theorem dX12_even_39 : decode cX12_even 39 = .ok (.iaload, 1) := by decide +kernel
theorem dX12_even_40 : decode cX12_even 40 = .ok (.iload_n 2, 1) := by decide +kernel
theorem dX12_even_41 : decode cX12_even 41 = .ok (.if_icmp .ge 13, 3) := by decide +kernel
theorem dX12_even_44 : decode cX12_even 44 = .ok (.aload_n 0, 1) := by decide +kernel
theorem dX12_even_45 : decode cX12_even 45 = .ok (.getfield 124, 3) := by decide +kernel
theorem dX12_even_48 : decode cX12_even 48 = .ok (.iload 4, 2) := by decide +kernel
theorem dX12_even_50 : decode cX12_even 50 = .ok (.iaload, 1) := by decide +kernel
theorem dX12_even_51 : decode cX12_even 51 = .ok (.goto 4, 3) := by decide +kernel
theorem dX12_even_54 : decode cX12_even 54 = .ok (.iload_n 2, 1) := by decide +kernel
theorem dX12_even_55 : decode cX12_even 55 = .ok (.istore_n 2, 1) := by decide +kernel
theorem dX12_even_56 : decode cX12_even 56 = .ok (.aload_n 0, 1) := by decide +kernel
theorem dX12_even_57 : decode cX12_even 57 = .ok (.getfield 124, 3) := by decide +kernel
theorem dX12_even_60 : decode cX12_even 60 = .ok (.iload 4, 2) := by decide +kernel
theorem dX12_even_62 : decode cX12_even 62 = .ok (.iaload, 1) := by decide +kernel
theorem dX12_even_63 : decode cX12_even 63 = .ok (.iload_n 3, 1) := by decide +kernel
theorem dX12_even_64 : decode cX12_even 64 = .ok (.if_icmp .le 13, 3) := by decide +kernel
theorem dX12_even_67 : decode cX12_even 67 = .ok (.aload_n 0, 1) := by decide +kernel
theorem dX12_even_68 : decode cX12_even 68 = .ok (.getfield 124, 3) := by decide +kernel
theorem dX12_even_71 : decode cX12_even 71 = .ok (.iload 4, 2) := by decide +kernel
theorem dX12_even_73 : decode cX12_even 73 = .ok (.iaload, 1) := by decide +kernel
theorem dX12_even_74 : decode cX12_even 74 = .ok (.goto 4, 3) := by decide +kernel
theorem dX12_even_77 : decode cX12_even 77 = .ok (.iload_n 3, 1) := by decide +kernel
theorem dX12_even_78 : decode cX12_even 78 = .ok (.istore_n 3, 1) := by decide +kernel
theorem dX12_even_79 : decode cX12_even 79 = .ok (.iinc 4 1, 3) := by decide +kernel
theorem dX12_even_82 : decode cX12_even 82 = .ok (.goto (-68), 3) := by decide +kernel
theorem dX12_even_85 : decode cX12_even 85 = .ok (.iload_n 3, 1) := by decide +kernel
theorem dX12_even_86 : decode cX12_even 86 = .ok (.iload_n 2, 1) := by decide +kernel
theorem dX12_even_87 : decode cX12_even 87 = .ok (.isub, 1) := by decide +kernel
theorem dX12_even_88 : decode cX12_even 88 = .ok (.ireturn, 1) := by decide +kernel
theorem dX12_ofTable_10 : decode cX12_ofTable 10 = .ok (.iload_n 2, 1) := by decide +kernel
theorem dX12_ofTable_11 : decode cX12_ofTable 11 = .ok (.tableswitch 78 0 5 #[37, 44, 51, 58, 65, 72], 37) := by decide +kernel
theorem dX12_ofTable_48 : decode cX12_ofTable 48 = .ok (.aload_n 0, 1) := by decide +kernel
theorem dX12_ofTable_49 : decode cX12_ofTable 49 = .ok (.getfield 32, 3) := by decide +kernel
theorem dX12_ofTable_52 : decode cX12_ofTable 52 = .ok (.iload_n 1, 1) := by decide +kernel
theorem dX12_ofTable_53 : decode cX12_ofTable 53 = .ok (.iaload, 1) := by decide +kernel
theorem dX12_ofTable_54 : decode cX12_ofTable 54 = .ok (.ireturn, 1) := by decide +kernel
theorem dX12_ofTable_55 : decode cX12_ofTable 55 = .ok (.aload_n 0, 1) := by decide +kernel
theorem dX12_ofTable_56 : decode cX12_ofTable 56 = .ok (.getfield 59, 3) := by decide +kernel
theorem dX12_ofTable_59 : decode cX12_ofTable 59 = .ok (.iload_n 1, 1) := by decide +kernel
theorem dX12_ofTable_60 : decode cX12_ofTable 60 = .ok (.iaload, 1) := by decide +kernel
theorem dX12_ofTable_61 : decode cX12_ofTable 61 = .ok (.ireturn, 1) := by decide +kernel
theorem dX12_ofTable_62 : decode cX12_ofTable 62 = .ok (.aload_n 0, 1) := by decide +kernel
theorem dX12_ofTable_63 : decode cX12_ofTable 63 = .ok (.getfield 38, 3) := by decide +kernel
theorem dX12_ofTable_66 : decode cX12_ofTable 66 = .ok (.iload_n 1, 1) := by decide +kernel
theorem dX12_ofTable_67 : decode cX12_ofTable 67 = .ok (.iaload, 1) := by decide +kernel
theorem dX12_ofTable_68 : decode cX12_ofTable 68 = .ok (.ireturn, 1) := by decide +kernel
theorem dX12_ofTable_69 : decode cX12_ofTable 69 = .ok (.aload_n 0, 1) := by decide +kernel
theorem dX12_ofTable_70 : decode cX12_ofTable 70 = .ok (.getfield 41, 3) := by decide +kernel
theorem dX12_ofTable_73 : decode cX12_ofTable 73 = .ok (.iload_n 1, 1) := by decide +kernel
theorem dX12_ofTable_74 : decode cX12_ofTable 74 = .ok (.iaload, 1) := by decide +kernel
theorem dX12_ofTable_75 : decode cX12_ofTable 75 = .ok (.ireturn, 1) := by decide +kernel
theorem dX12_ofTable_76 : decode cX12_ofTable 76 = .ok (.aload_n 0, 1) := by decide +kernel
theorem dX12_ofTable_77 : decode cX12_ofTable 77 = .ok (.getfield 44, 3) := by decide +kernel
theorem dX12_ofTable_80 : decode cX12_ofTable 80 = .ok (.iload_n 1, 1) := by decide +kernel
theorem dX12_ofTable_81 : decode cX12_ofTable 81 = .ok (.iaload, 1) := by decide +kernel
theorem dX12_ofTable_82 : decode cX12_ofTable 82 = .ok (.ireturn, 1) := by decide +kernel
theorem dX12_ofTable_83 : decode cX12_ofTable 83 = .ok (.aload_n 0, 1) := by decide +kernel
theorem dX12_ofTable_84 : decode cX12_ofTable 84 = .ok (.iload_n 1, 1) := by decide +kernel
theorem dX12_ofTable_85 : decode cX12_ofTable 85 = .ok (.invokevirtual 278, 3) := by decide +kernel
theorem dX12_ofTable_88 : decode cX12_ofTable 88 = .ok (.ireturn, 1) := by decide +kernel
theorem dX12_ofTable_89 : decode cX12_ofTable 89 = .ok (.iconst (-1), 1) := by decide +kernel
theorem dX12_ofTable_90 : decode cX12_ofTable 90 = .ok (.ireturn, 1) := by decide +kernel
theorem dX12_ones_0 : decode cX12_ones 0 = .ok (.iconst 0, 1) := by decide +kernel
theorem dX12_ones_1 : decode cX12_ones 1 = .ok (.istore_n 1, 1) := by decide +kernel
theorem dX12_ones_2 : decode cX12_ones 2 = .ok (.iconst 0, 1) := by decide +kernel
theorem dX12_ones_3 : decode cX12_ones 3 = .ok (.istore_n 2, 1) := by decide +kernel
theorem dX12_ones_4 : decode cX12_ones 4 = .ok (.iload_n 2, 1) := by decide +kernel
theorem dX12_ones_5 : decode cX12_ones 5 = .ok (.bipush 12, 2) := by decide +kernel
theorem dX12_ones_7 : decode cX12_ones 7 = .ok (.if_icmp .ge 17, 3) := by decide +kernel
theorem dX12_ones_10 : decode cX12_ones 10 = .ok (.iload_n 1, 1) := by decide +kernel
theorem dX12_ones_11 : decode cX12_ones 11 = .ok (.iload_n 0, 1) := by decide +kernel
theorem dX12_ones_12 : decode cX12_ones 12 = .ok (.iload_n 2, 1) := by decide +kernel
theorem dX12_ones_13 : decode cX12_ones 13 = .ok (.ishr, 1) := by decide +kernel
theorem dX12_ones_14 : decode cX12_ones 14 = .ok (.iconst 1, 1) := by decide +kernel
theorem dX12_ones_15 : decode cX12_ones 15 = .ok (.iand, 1) := by decide +kernel
theorem dX12_ones_16 : decode cX12_ones 16 = .ok (.iadd, 1) := by decide +kernel
theorem dX12_ones_17 : decode cX12_ones 17 = .ok (.istore_n 1, 1) := by decide +kernel
theorem dX12_ones_18 : decode cX12_ones 18 = .ok (.iinc 2 1, 3) := by decide +kernel
theorem dX12_ones_21 : decode cX12_ones 21 = .ok (.goto (-17), 3) := by decide +kernel
theorem dX12_ones_24 : decode cX12_ones 24 = .ok (.iload_n 1, 1) := by decide +kernel
theorem dX12_ones_25 : decode cX12_ones 25 = .ok (.ireturn, 1) := by decide +kernel
theorem dX12_moves_8 : decode cX12_moves 8 = .ok (.aload_n 0, 1) := by decide +kernel
theorem dX12_moves_9 : decode cX12_moves 9 = .ok (.iload_n 2, 1) := by decide +kernel
theorem dX12_moves_10 : decode cX12_moves 10 = .ok (.invokevirtual 266, 3) := by decide +kernel
theorem dX12_moves_13 : decode cX12_moves 13 = .ok (.ifCond .eq 12, 3) := by decide +kernel
theorem dX12_moves_16 : decode cX12_moves 16 = .ok (.iload_n 3, 1) := by decide +kernel
theorem dX12_moves_17 : decode cX12_moves 17 = .ok (.iconst 0, 1) := by decide +kernel
theorem dX12_moves_18 : decode cX12_moves 18 = .ok (.iconst 1, 1) := by decide +kernel
theorem dX12_moves_19 : decode cX12_moves 19 = .ok (.invokestatic 136, 3) := by decide +kernel
theorem dX12_moves_22 : decode cX12_moves 22 = .ok (.ifCond .ne 5, 3) := by decide +kernel
theorem dX12_moves_27 : decode cX12_moves 27 = .ok (.iconst 0, 1) := by decide +kernel
theorem dX12_moves_28 : decode cX12_moves 28 = .ok (.istore 4, 2) := by decide +kernel
theorem dX12_moves_30 : decode cX12_moves 30 = .ok (.iconst 0, 1) := by decide +kernel
theorem dX12_moves_31 : decode cX12_moves 31 = .ok (.istore 5, 2) := by decide +kernel
theorem dX12_moves_33 : decode cX12_moves 33 = .ok (.iload 5, 2) := by decide +kernel
theorem dX12_moves_35 : decode cX12_moves 35 = .ok (.aload_n 0, 1) := by decide +kernel
theorem dX12_moves_36 : decode cX12_moves 36 = .ok (.getfield 140, 3) := by decide +kernel
theorem dX12_moves_39 : decode cX12_moves 39 = .ok (.if_icmp .ge 69, 3) := by decide +kernel
theorem dX12_moves_42 : decode cX12_moves 42 = .ok (.iload 4, 2) := by decide +kernel
theorem dX12_moves_44 : decode cX12_moves 44 = .ok (.aload_n 0, 1) := by decide +kernel
theorem dX12_moves_45 : decode cX12_moves 45 = .ok (.iload_n 1, 1) := by decide +kernel
theorem dX12_moves_46 : decode cX12_moves 46 = .ok (.iload 5, 2) := by decide +kernel
theorem dX12_moves_48 : decode cX12_moves 48 = .ok (.invokevirtual 223, 3) := by decide +kernel
theorem dX12_moves_51 : decode cX12_moves 51 = .ok (.ifCond .eq 47, 3) := by decide +kernel
theorem dX12_moves_54 : decode cX12_moves 54 = .ok (.aload_n 0, 1) := by decide +kernel
theorem dX12_moves_55 : decode cX12_moves 55 = .ok (.iload_n 2, 1) := by decide +kernel
theorem dX12_moves_56 : decode cX12_moves 56 = .ok (.iload 5, 2) := by decide +kernel
theorem dX12_moves_58 : decode cX12_moves 58 = .ok (.invokevirtual 223, 3) := by decide +kernel
theorem dX12_moves_61 : decode cX12_moves 61 = .ok (.ifCond .eq 37, 3) := by decide +kernel
theorem dX12_moves_64 : decode cX12_moves 64 = .ok (.aload_n 0, 1) := by decide +kernel
theorem dX12_moves_65 : decode cX12_moves 65 = .ok (.getfield 53, 3) := by decide +kernel
theorem dX12_moves_68 : decode cX12_moves 68 = .ok (.bipush 12, 2) := by decide +kernel
theorem dX12_moves_70 : decode cX12_moves 70 = .ok (.iload_n 1, 1) := by decide +kernel
theorem dX12_moves_71 : decode cX12_moves 71 = .ok (.imul, 1) := by decide +kernel
theorem dX12_moves_72 : decode cX12_moves 72 = .ok (.iload 5, 2) := by decide +kernel
theorem dX12_moves_74 : decode cX12_moves 74 = .ok (.iadd, 1) := by decide +kernel
theorem dX12_moves_75 : decode cX12_moves 75 = .ok (.iaload, 1) := by decide +kernel
theorem dX12_moves_76 : decode cX12_moves 76 = .ok (.aload_n 0, 1) := by decide +kernel
theorem dX12_moves_77 : decode cX12_moves 77 = .ok (.getfield 53, 3) := by decide +kernel
theorem dX12_moves_80 : decode cX12_moves 80 = .ok (.bipush 12, 2) := by decide +kernel
theorem dX12_moves_82 : decode cX12_moves 82 = .ok (.iload_n 2, 1) := by decide +kernel
theorem dX12_moves_83 : decode cX12_moves 83 = .ok (.imul, 1) := by decide +kernel
theorem dX12_moves_84 : decode cX12_moves 84 = .ok (.iload 5, 2) := by decide +kernel
theorem dX12_moves_86 : decode cX12_moves 86 = .ok (.iadd, 1) := by decide +kernel
theorem dX12_moves_87 : decode cX12_moves 87 = .ok (.iaload, 1) := by decide +kernel
theorem dX12_moves_88 : decode cX12_moves 88 = .ok (.if_icmp .ne 10, 3) := by decide +kernel
theorem dX12_moves_91 : decode cX12_moves 91 = .ok (.iconst 1, 1) := by decide +kernel
theorem dX12_moves_92 : decode cX12_moves 92 = .ok (.iload 5, 2) := by decide +kernel
theorem dX12_moves_94 : decode cX12_moves 94 = .ok (.ishl, 1) := by decide +kernel
theorem dX12_moves_95 : decode cX12_moves 95 = .ok (.goto 4, 3) := by decide +kernel
theorem dX12_moves_98 : decode cX12_moves 98 = .ok (.iconst 0, 1) := by decide +kernel
theorem dX12_moves_99 : decode cX12_moves 99 = .ok (.ior, 1) := by decide +kernel
theorem dX12_moves_100 : decode cX12_moves 100 = .ok (.istore 4, 2) := by decide +kernel
theorem dX12_moves_102 : decode cX12_moves 102 = .ok (.iinc 5 1, 3) := by decide +kernel
theorem dX12_moves_105 : decode cX12_moves 105 = .ok (.goto (-72), 3) := by decide +kernel
theorem dX12_moves_108 : decode cX12_moves 108 = .ok (.iconst 0, 1) := by decide +kernel
theorem dX12_moves_109 : decode cX12_moves 109 = .ok (.istore 5, 2) := by decide +kernel
theorem dX12_moves_111 : decode cX12_moves 111 = .ok (.iconst 0, 1) := by decide +kernel
theorem dX12_moves_112 : decode cX12_moves 112 = .ok (.istore 6, 2) := by decide +kernel
theorem dX12_moves_114 : decode cX12_moves 114 = .ok (.iconst 0, 1) := by decide +kernel
theorem dX12_moves_115 : decode cX12_moves 115 = .ok (.istore 7, 2) := by decide +kernel
theorem dX12_moves_117 : decode cX12_moves 117 = .ok (.iload 7, 2) := by decide +kernel
theorem dX12_moves_119 : decode cX12_moves 119 = .ok (.aload_n 0, 1) := by decide +kernel
theorem dX12_moves_120 : decode cX12_moves 120 = .ok (.getfield 133, 3) := by decide +kernel
theorem dX12_moves_123 : decode cX12_moves 123 = .ok (.if_icmp .ge 77, 3) := by decide +kernel
theorem dX12_moves_126 : decode cX12_moves 126 = .ok (.aload_n 0, 1) := by decide +kernel
theorem dX12_moves_127 : decode cX12_moves 127 = .ok (.iload_n 1, 1) := by decide +kernel
theorem dX12_moves_128 : decode cX12_moves 128 = .ok (.iload 7, 2) := by decide +kernel
theorem dX12_moves_130 : decode cX12_moves 130 = .ok (.invokevirtual 269, 3) := by decide +kernel
theorem dX12_moves_133 : decode cX12_moves 133 = .ok (.aload_n 0, 1) := by decide +kernel
theorem dX12_moves_134 : decode cX12_moves 134 = .ok (.invokevirtual 281, 3) := by decide +kernel
theorem dX12_moves_137 : decode cX12_moves 137 = .ok (.istore 8, 2) := by decide +kernel
theorem dX12_moves_139 : decode cX12_moves 139 = .ok (.aload_n 0, 1) := by decide +kernel
theorem dX12_moves_140 : decode cX12_moves 140 = .ok (.iload_n 2, 1) := by decide +kernel
theorem dX12_moves_141 : decode cX12_moves 141 = .ok (.iload 7, 2) := by decide +kernel
theorem dX12_moves_143 : decode cX12_moves 143 = .ok (.invokevirtual 269, 3) := by decide +kernel
theorem dX12_moves_146 : decode cX12_moves 146 = .ok (.aload_n 0, 1) := by decide +kernel
theorem dX12_moves_147 : decode cX12_moves 147 = .ok (.invokevirtual 281, 3) := by decide +kernel
theorem dX12_moves_150 : decode cX12_moves 150 = .ok (.iload 8, 2) := by decide +kernel
theorem dX12_moves_152 : decode cX12_moves 152 = .ok (.iconst (-1), 1) := by decide +kernel
theorem dX12_moves_153 : decode cX12_moves 153 = .ok (.ixor, 1) := by decide +kernel
theorem dX12_moves_154 : decode cX12_moves 154 = .ok (.iand, 1) := by decide +kernel
theorem dX12_moves_155 : decode cX12_moves 155 = .ok (.istore 9, 2) := by decide +kernel
theorem dX12_moves_157 : decode cX12_moves 157 = .ok (.iload 5, 2) := by decide +kernel
theorem dX12_moves_159 : decode cX12_moves 159 = .ok (.iload 9, 2) := by decide +kernel
theorem dX12_moves_161 : decode cX12_moves 161 = .ok (.invokestatic 284, 3) := by decide +kernel
theorem dX12_moves_164 : decode cX12_moves 164 = .ok (.iadd, 1) := by decide +kernel
theorem dX12_moves_165 : decode cX12_moves 165 = .ok (.istore 5, 2) := by decide +kernel
theorem dX12_moves_167 : decode cX12_moves 167 = .ok (.iload 6, 2) := by decide +kernel
theorem dX12_moves_169 : decode cX12_moves 169 = .ok (.iload 8, 2) := by decide +kernel
theorem dX12_moves_171 : decode cX12_moves 171 = .ok (.iload 4, 2) := by decide +kernel
theorem dX12_moves_173 : decode cX12_moves 173 = .ok (.iconst (-1), 1) := by decide +kernel
theorem dX12_moves_174 : decode cX12_moves 174 = .ok (.ixor, 1) := by decide +kernel
theorem dX12_moves_175 : decode cX12_moves 175 = .ok (.iand, 1) := by decide +kernel
theorem dX12_moves_176 : decode cX12_moves 176 = .ok (.ifCond .ne 14, 3) := by decide +kernel
theorem dX12_moves_179 : decode cX12_moves 179 = .ok (.iload 9, 2) := by decide +kernel
theorem dX12_moves_181 : decode cX12_moves 181 = .ok (.iload 4, 2) := by decide +kernel
theorem dX12_moves_183 : decode cX12_moves 183 = .ok (.iand, 1) := by decide +kernel
theorem dX12_moves_184 : decode cX12_moves 184 = .ok (.invokestatic 284, 3) := by decide +kernel
theorem dX12_moves_187 : decode cX12_moves 187 = .ok (.goto 4, 3) := by decide +kernel
theorem dX12_moves_190 : decode cX12_moves 190 = .ok (.iconst 0, 1) := by decide +kernel
theorem dX12_moves_191 : decode cX12_moves 191 = .ok (.iadd, 1) := by decide +kernel
theorem dX12_moves_192 : decode cX12_moves 192 = .ok (.istore 6, 2) := by decide +kernel
theorem dX12_moves_194 : decode cX12_moves 194 = .ok (.iinc 7 1, 3) := by decide +kernel
theorem dX12_moves_197 : decode cX12_moves 197 = .ok (.goto (-80), 3) := by decide +kernel
theorem dX12_moves_200 : decode cX12_moves 200 = .ok (.iload_n 3, 1) := by decide +kernel
theorem dX12_moves_201 : decode cX12_moves 201 = .ok (.ifCond .ne 8, 3) := by decide +kernel
theorem dX12_moves_204 : decode cX12_moves 204 = .ok (.iload 5, 2) := by decide +kernel
theorem dX12_moves_206 : decode cX12_moves 206 = .ok (.goto 5, 3) := by decide +kernel
theorem dX12_moves_209 : decode cX12_moves 209 = .ok (.iload 6, 2) := by decide +kernel
theorem dX12_moves_211 : decode cX12_moves 211 = .ok (.ireturn, 1) := by decide +kernel
theorem dX12_knows_8 : decode cX12_knows 8 = .ok (.iload_n 2, 1) := by decide +kernel
theorem dX12_knows_9 : decode cX12_knows 9 = .ok (.iconst (-1), 1) := by decide +kernel
theorem dX12_knows_10 : decode cX12_knows 10 = .ok (.aload_n 0, 1) := by decide +kernel
theorem dX12_knows_11 : decode cX12_knows 11 = .ok (.getfield 143, 3) := by decide +kernel
theorem dX12_knows_14 : decode cX12_knows 14 = .ok (.iconst 1, 1) := by decide +kernel
theorem dX12_knows_15 : decode cX12_knows 15 = .ok (.isub, 1) := by decide +kernel
theorem dX12_knows_16 : decode cX12_knows 16 = .ok (.invokestatic 136, 3) := by decide +kernel
theorem dX12_knows_19 : decode cX12_knows 19 = .ok (.ifCond .ne 6, 3) := by decide +kernel
theorem dX12_knows_25 : decode cX12_knows 25 = .ok (.aload_n 0, 1) := by decide +kernel
theorem dX12_knows_26 : decode cX12_knows 26 = .ok (.getfield 25, 3) := by decide +kernel
theorem dX12_knows_29 : decode cX12_knows 29 = .ok (.iload_n 1, 1) := by decide +kernel
theorem dX12_knows_30 : decode cX12_knows 30 = .ok (.iaload, 1) := by decide +kernel
theorem dX12_knows_31 : decode cX12_knows 31 = .ok (.istore_n 3, 1) := by decide +kernel
theorem dX12_knows_32 : decode cX12_knows 32 = .ok (.aload_n 0, 1) := by decide +kernel
theorem dX12_knows_33 : decode cX12_knows 33 = .ok (.getfield 25, 3) := by decide +kernel
theorem dX12_knows_36 : decode cX12_knows 36 = .ok (.iload_n 1, 1) := by decide +kernel
theorem dX12_knows_37 : decode cX12_knows 37 = .ok (.iload_n 2, 1) := by decide +kernel
theorem dX12_knows_38 : decode cX12_knows 38 = .ok (.iastore, 1) := by decide +kernel
theorem dX12_knows_39 : decode cX12_knows 39 = .ok (.iload_n 3, 1) := by decide +kernel
