set_option maxRecDepth 20000 in
theorem ggX11_table_X8_takeMembers : GoodIn wsX11_table wsX8_takeMembers := goodIn_r _ [16, 17, 18, 19, 20, 21, 22, 23, 24, 25, 181, 182, 183, 184, 185, 186, 187, 188, 189, 190, 191, 192, 193, 173, 174, 175, 176, 177, 178] (by decide +kernel) (by decide +kernel)
set_option maxRecDepth 20000 in
theorem gX11_table_X8_takeMembers : GoodIn wsX11_table (wsV RX11 173 RX8 yX8_takeMembers wsX8_takeMembers) := goodIn_app (goodIn_of _ (by decide +kernel)) ggX11_table_X8_takeMembers
set_option maxRecDepth 20000 in
theorem ggX11_table_X8_takeLaw : GoodIn wsX11_table wsX8_takeLaw := goodIn_r _ [29, 30, 31, 32, 33, 34, 35, 36, 37, 38, 39, 40, 41, 42, 181, 182, 183, 184, 185, 186, 187, 188, 189, 190, 191, 192, 193] (by decide +kernel) (by decide +kernel)
set_option maxRecDepth 20000 in
theorem gX11_table_X8_takeLaw : GoodIn wsX11_table (wsV RX11 177 RX8 yX8_takeLaw wsX8_takeLaw) := goodIn_app (goodIn_of _ (by decide +kernel)) ggX11_table_X8_takeLaw
set_option maxRecDepth 20000 in
theorem ggX11_table_X3_workOut : GoodIn wsX11_table wsX3_workOut := goodIn_r _ [47, 48, 49, 50, 51, 52, 53, 54, 55, 56, 57, 58, 59, 46, 60, 61, 62, 63, 64, 65, 66, 67, 35, 32, 36, 68, 69, 70, 71, 72, 73, 74, 75, 76, 77, 78, 79, 80, 81, 82, 83, 84, 85, 86, 87, 88, 89, 90, 91, 92, 93, 94, 95, 96, 97, 98, 99, 100, 101, 102, 103, 104, 105, 106, 107, 108, 109, 110, 31, 33, 111, 112, 113, 114, 181, 182, 183, 184, 185, 186, 187, 188, 189, 190, 191, 192, 193, 194, 195, 196, 197, 198, 199, 200, 201, 173, 174, 175, 176, 177, 178] (by decide +kernel) (by decide +kernel)
set_option maxRecDepth 20000 in
theorem gX11_table_X3_workOut : GoodIn wsX11_table (wsV RX11 181 RX3 yX3_workOut wsX3_workOut) := goodIn_app (goodIn_of _ (by decide +kernel)) ggX11_table_X3_workOut
set_option maxRecDepth 20000 in
theorem ggX11_table_X8_init : GoodIn wsX11_table wsX8_init := goodIn_r _ [116, 117, 118, 119, 17, 120, 121, 122, 123, 124, 37, 125, 126, 18, 127, 128, 38, 129, 130, 131, 181, 182, 183, 184, 185, 186, 187, 188, 189, 190, 191, 192, 193] (by decide +kernel) (by decide +kernel)
set_option maxRecDepth 20000 in
theorem gX11_table_X8_init_n56 : GoodIn wsX11_table (wsX8_init) := ggX11_table_X8_init
set_option maxRecDepth 20000 in
theorem ggX11_table_X8_takeAll : GoodIn wsX11_table wsX8_takeAll := goodIn_r _ [135, 17, 18, 39, 40, 41, 42, 38, 37, 121, 122, 123, 136, 27, 28, 11, 29, 30, 31, 32, 33, 34, 35, 36, 181, 182, 183, 184, 185, 186, 187, 188, 189, 190, 191, 192, 193] (by decide +kernel) (by decide +kernel)
set_option maxRecDepth 20000 in
theorem gX11_table_X8_takeAll : GoodIn wsX11_table (wsV RX11 185 RX8 yX8_takeAll wsX8_takeAll) := goodIn_app (goodIn_of _ (by decide +kernel)) ggX11_table_X8_takeAll
set_option maxRecDepth 20000 in
theorem ggX11_table_X8_seatAll : GoodIn wsX11_table wsX8_seatAll := goodIn_r _ [140, 120, 124, 125, 129, 18, 141, 142, 143, 144, 145, 146, 147, 148, 149, 150, 151, 152, 11, 153, 154, 155, 156, 157, 158, 159, 131, 181, 182, 183, 184, 185, 186, 187, 188, 189, 190, 191, 192, 193] (by decide +kernel) (by decide +kernel)
set_option maxRecDepth 20000 in
theorem gX11_table_X8_seatAll : GoodIn wsX11_table (wsV RX11 189 RX8 yX8_seatAll wsX8_seatAll) := goodIn_app (goodIn_of _ (by decide +kernel)) ggX11_table_X8_seatAll
theorem dX11_table_26 : decode cX11_table 26 = .ok (.aload_n 0, 1) := by decide +kernel
theorem dX11_table_27 : decode cX11_table 27 = .ok (.getfield 52, 3) := by decide +kernel
theorem dX11_table_30 : decode cX11_table 30 = .ok (.bipush 10, 2) := by decide +kernel
theorem dX11_table_32 : decode cX11_table 32 = .ok (.if_icmp .lt 6, 3) := by decide +kernel
theorem dX11_table_35 : decode cX11_table 35 = .ok (.bipush (-3), 2) := by decide +kernel
theorem dX11_table_37 : decode cX11_table 37 = .ok (.ireturn, 1) := by decide +kernel
theorem dX11_table_38 : decode cX11_table 38 = .ok (.aload_n 0, 1) := by decide +kernel
theorem dX11_table_39 : decode cX11_table 39 = .ok (.getfield 57, 3) := by decide +kernel
theorem dX11_table_42 : decode cX11_table 42 = .ok (.iload_n 1, 1) := by decide +kernel
theorem dX11_table_43 : decode cX11_table 43 = .ok (.aload_n 0, 1) := by decide +kernel
theorem dX11_table_44 : decode cX11_table 44 = .ok (.getfield 26, 3) := by decide +kernel
theorem dX11_table_47 : decode cX11_table 47 = .ok (.invokevirtual 173, 3) := by decide +kernel
theorem dX11_table_50 : decode cX11_table 50 = .ok (.aload_n 0, 1) := by decide +kernel
theorem dX11_table_51 : decode cX11_table 51 = .ok (.getfield 57, 3) := by decide +kernel
theorem dX11_table_54 : decode cX11_table 54 = .ok (.aload_n 0, 1) := by decide +kernel
theorem dX11_table_55 : decode cX11_table 55 = .ok (.getfield 10, 3) := by decide +kernel
theorem dX11_table_58 : decode cX11_table 58 = .ok (.getfield 109, 3) := by decide +kernel
theorem dX11_table_61 : decode cX11_table 61 = .ok (.aload_n 0, 1) := by decide +kernel
theorem dX11_table_62 : decode cX11_table 62 = .ok (.getfield 10, 3) := by decide +kernel
theorem dX11_table_65 : decode cX11_table 65 = .ok (.getfield 102, 3) := by decide +kernel
theorem dX11_table_68 : decode cX11_table 68 = .ok (.invokevirtual 177, 3) := by decide +kernel
theorem dX11_table_71 : decode cX11_table 71 = .ok (.aload_n 0, 1) := by decide +kernel
theorem dX11_table_72 : decode cX11_table 72 = .ok (.getfield 10, 3) := by decide +kernel
theorem dX11_table_75 : decode cX11_table 75 = .ok (.iconst 0, 1) := by decide +kernel
theorem dX11_table_76 : decode cX11_table 76 = .ok (.putfield 102, 3) := by decide +kernel
theorem dX11_table_79 : decode cX11_table 79 = .ok (.aload_n 0, 1) := by decide +kernel
theorem dX11_table_80 : decode cX11_table 80 = .ok (.getfield 33, 3) := by decide +kernel
theorem dX11_table_83 : decode cX11_table 83 = .ok (.aload_n 0, 1) := by decide +kernel
theorem dX11_table_84 : decode cX11_table 84 = .ok (.getfield 57, 3) := by decide +kernel
theorem dX11_table_87 : decode cX11_table 87 = .ok (.aload_n 0, 1) := by decide +kernel
theorem dX11_table_88 : decode cX11_table 88 = .ok (.getfield 26, 3) := by decide +kernel
theorem dX11_table_91 : decode cX11_table 91 = .ok (.invokevirtual 181, 3) := by decide +kernel
theorem dX11_table_94 : decode cX11_table 94 = .ok (.istore 4, 2) := by decide +kernel
theorem dX11_table_96 : decode cX11_table 96 = .ok (.iload 4, 2) := by decide +kernel
theorem dX11_table_98 : decode cX11_table 98 = .ok (.iconst (-1), 1) := by decide +kernel
theorem dX11_table_99 : decode cX11_table 99 = .ok (.if_icmp .eq 9, 3) := by decide +kernel
theorem dX11_table_102 : decode cX11_table 102 = .ok (.bipush (-100), 2) := by decide +kernel
theorem dX11_table_104 : decode cX11_table 104 = .ok (.iload 4, 2) := by decide +kernel
theorem dX11_table_106 : decode cX11_table 106 = .ok (.isub, 1) := by decide +kernel
theorem dX11_table_107 : decode cX11_table 107 = .ok (.ireturn, 1) := by decide +kernel
theorem dX11_table_108 : decode cX11_table 108 = .ok (.new 46, 3) := by decide +kernel
theorem dX11_table_111 : decode cX11_table 111 = .ok (.dup, 1) := by decide +kernel
theorem dX11_table_112 : decode cX11_table 112 = .ok (.invokespecial 56, 3) := by decide +kernel
theorem dX11_table_115 : decode cX11_table 115 = .ok (.astore 5, 2) := by decide +kernel
theorem dX11_table_117 : decode cX11_table 117 = .ok (.aload 5, 2) := by decide +kernel
theorem dX11_table_119 : decode cX11_table 119 = .ok (.aload_n 0, 1) := by decide +kernel
theorem dX11_table_120 : decode cX11_table 120 = .ok (.getfield 57, 3) := by decide +kernel
theorem dX11_table_123 : decode cX11_table 123 = .ok (.invokevirtual 185, 3) := by decide +kernel
theorem dX11_table_126 : decode cX11_table 126 = .ok (.aload 5, 2) := by decide +kernel
theorem dX11_table_128 : decode cX11_table 128 = .ok (.iload_n 2, 1) := by decide +kernel
theorem dX11_table_129 : decode cX11_table 129 = .ok (.invokevirtual 189, 3) := by decide +kernel
theorem dX11_table_132 : decode cX11_table 132 = .ok (.aload_n 0, 1) := by decide +kernel
theorem dX11_table_133 : decode cX11_table 133 = .ok (.getfield 48, 3) := by decide +kernel
theorem dX11_table_136 : decode cX11_table 136 = .ok (.aload_n 0, 1) := by decide +kernel
theorem dX11_table_137 : decode cX11_table 137 = .ok (.getfield 52, 3) := by decide +kernel
theorem dX11_table_140 : decode cX11_table 140 = .ok (.aload 5, 2) := by decide +kernel
theorem dX11_table_142 : decode cX11_table 142 = .ok (.aastore, 1) := by decide +kernel
theorem dX11_table_143 : decode cX11_table 143 = .ok (.aload_n 0, 1) := by decide +kernel
theorem dX11_table_144 : decode cX11_table 144 = .ok (.dup, 1) := by decide +kernel
theorem dX11_table_145 : decode cX11_table 145 = .ok (.getfield 52, 3) := by decide +kernel
theorem dX11_table_148 : decode cX11_table 148 = .ok (.iconst 1, 1) := by decide +kernel
theorem dX11_table_149 : decode cX11_table 149 = .ok (.iadd, 1) := by decide +kernel
theorem dX11_table_150 : decode cX11_table 150 = .ok (.putfield 52, 3) := by decide +kernel
theorem dX11_table_153 : decode cX11_table 153 = .ok (.aload_n 0, 1) := by decide +kernel
theorem dX11_table_154 : decode cX11_table 154 = .ok (.getfield 52, 3) := by decide +kernel
theorem dX11_table_157 : decode cX11_table 157 = .ok (.iconst 1, 1) := by decide +kernel
theorem dX11_table_158 : decode cX11_table 158 = .ok (.isub, 1) := by decide +kernel
theorem dX11_table_159 : decode cX11_table 159 = .ok (.ireturn, 1) := by decide +kernel
