theorem dX3_readOperand_5 : decode cX3_readOperand 5 = .ok (.iload_n 2, 1) := by decide +kernel
theorem dX3_readOperand_6 : decode cX3_readOperand 6 = .ok (.invokestatic 106, 3) := by decide +kernel
theorem dX3_readOperand_9 : decode cX3_readOperand 9 = .ok (.ifCond .eq 8, 3) := by decide +kernel
theorem dX3_readOperand_12 : decode cX3_readOperand 12 = .ok (.aload_n 0, 1) := by decide +kernel
theorem dX3_readOperand_13 : decode cX3_readOperand 13 = .ok (.invokevirtual 110, 3) := by decide +kernel
theorem dX3_readOperand_16 : decode cX3_readOperand 16 = .ok (.ireturn, 1) := by decide +kernel
theorem dX3_readOperand_17 : decode cX3_readOperand 17 = .ok (.iload_n 2, 1) := by decide +kernel
theorem dX3_readOperand_18 : decode cX3_readOperand 18 = .ok (.bipush 40, 2) := by decide +kernel
theorem dX3_readOperand_20 : decode cX3_readOperand 20 = .ok (.if_icmp .ne 14, 3) := by decide +kernel
theorem dX3_readOperand_23 : decode cX3_readOperand 23 = .ok (.iload_n 1, 1) := by decide +kernel
theorem dX3_readOperand_24 : decode cX3_readOperand 24 = .ok (.iconst 4, 1) := by decide +kernel
theorem dX3_readOperand_25 : decode cX3_readOperand 25 = .ok (.if_icmp .ge 9, 3) := by decide +kernel
theorem dX3_readOperand_28 : decode cX3_readOperand 28 = .ok (.aload_n 0, 1) := by decide +kernel
theorem dX3_readOperand_29 : decode cX3_readOperand 29 = .ok (.iload_n 1, 1) := by decide +kernel
theorem dX3_readOperand_30 : decode cX3_readOperand 30 = .ok (.invokevirtual 113, 3) := by decide +kernel
theorem dX3_readOperand_33 : decode cX3_readOperand 33 = .ok (.ireturn, 1) := by decide +kernel
theorem dX3_readOperand_34 : decode cX3_readOperand 34 = .ok (.iconst 0, 1) := by decide +kernel
theorem dX3_readOperand_35 : decode cX3_readOperand 35 = .ok (.istore_n 3, 1) := by decide +kernel
theorem dX3_readOperand_36 : decode cX3_readOperand 36 = .ok (.iload_n 2, 1) := by decide +kernel
theorem dX3_readOperand_37 : decode cX3_readOperand 37 = .ok (.lookupswitch 75 #[(110, 43), (116, 59), (117, 51), (120, 67)], 43) := by decide +kernel
theorem dX3_readOperand_80 : decode cX3_readOperand 80 = .ok (.aload_n 0, 1) := by decide +kernel
theorem dX3_readOperand_81 : decode cX3_readOperand 81 = .ok (.getfield 25, 3) := by decide +kernel
theorem dX3_readOperand_84 : decode cX3_readOperand 84 = .ok (.istore_n 3, 1) := by decide +kernel
theorem dX3_readOperand_85 : decode cX3_readOperand 85 = .ok (.goto 37, 3) := by decide +kernel
theorem dX3_readOperand_88 : decode cX3_readOperand 88 = .ok (.aload_n 0, 1) := by decide +kernel
theorem dX3_readOperand_89 : decode cX3_readOperand 89 = .ok (.getfield 28, 3) := by decide +kernel
theorem dX3_readOperand_92 : decode cX3_readOperand 92 = .ok (.istore_n 3, 1) := by decide +kernel
theorem dX3_readOperand_93 : decode cX3_readOperand 93 = .ok (.goto 29, 3) := by decide +kernel
theorem dX3_readOperand_96 : decode cX3_readOperand 96 = .ok (.aload_n 0, 1) := by decide +kernel
theorem dX3_readOperand_97 : decode cX3_readOperand 97 = .ok (.getfield 31, 3) := by decide +kernel
theorem dX3_readOperand_100 : decode cX3_readOperand 100 = .ok (.istore_n 3, 1) := by decide +kernel
theorem dX3_readOperand_101 : decode cX3_readOperand 101 = .ok (.goto 21, 3) := by decide +kernel
theorem dX3_readOperand_104 : decode cX3_readOperand 104 = .ok (.aload_n 0, 1) := by decide +kernel
theorem dX3_readOperand_105 : decode cX3_readOperand 105 = .ok (.getfield 34, 3) := by decide +kernel
theorem dX3_readOperand_108 : decode cX3_readOperand 108 = .ok (.istore_n 3, 1) := by decide +kernel
theorem dX3_readOperand_109 : decode cX3_readOperand 109 = .ok (.goto 13, 3) := by decide +kernel
theorem dX3_readOperand_112 : decode cX3_readOperand 112 = .ok (.aload_n 0, 1) := by decide +kernel
theorem dX3_readOperand_113 : decode cX3_readOperand 113 = .ok (.aload_n 0, 1) := by decide +kernel
theorem dX3_readOperand_114 : decode cX3_readOperand 114 = .ok (.getfield 19, 3) := by decide +kernel
theorem dX3_readOperand_117 : decode cX3_readOperand 117 = .ok (.putfield 22, 3) := by decide +kernel
theorem dX3_readOperand_120 : decode cX3_readOperand 120 = .ok (.iconst 0, 1) := by decide +kernel
theorem dX3_readOperand_121 : decode cX3_readOperand 121 = .ok (.ireturn, 1) := by decide +kernel
theorem dX3_readOperand_122 : decode cX3_readOperand 122 = .ok (.aload_n 0, 1) := by decide +kernel
theorem dX3_readOperand_123 : decode cX3_readOperand 123 = .ok (.dup, 1) := by decide +kernel
theorem dX3_readOperand_124 : decode cX3_readOperand 124 = .ok (.getfield 19, 3) := by decide +kernel
theorem dX3_readOperand_127 : decode cX3_readOperand 127 = .ok (.iconst 1, 1) := by decide +kernel
theorem dX3_readOperand_128 : decode cX3_readOperand 128 = .ok (.iadd, 1) := by decide +kernel
theorem dX3_readOperand_129 : decode cX3_readOperand 129 = .ok (.putfield 19, 3) := by decide +kernel
theorem dX3_readOperand_132 : decode cX3_readOperand 132 = .ok (.iload_n 3, 1) := by decide +kernel
theorem dX3_readOperand_133 : decode cX3_readOperand 133 = .ok (.ireturn, 1) := by decide +kernel
theorem dX3_readBracket_0 : decode cX3_readBracket 0 = .ok (.aload_n 0, 1) := by decide +kernel
theorem dX3_readBracket_1 : decode cX3_readBracket 1 = .ok (.dup, 1) := by decide +kernel
theorem dX3_readBracket_2 : decode cX3_readBracket 2 = .ok (.getfield 19, 3) := by decide +kernel
theorem dX3_readBracket_5 : decode cX3_readBracket 5 = .ok (.iconst 1, 1) := by decide +kernel
theorem dX3_readBracket_6 : decode cX3_readBracket 6 = .ok (.iadd, 1) := by decide +kernel
theorem dX3_readBracket_7 : decode cX3_readBracket 7 = .ok (.putfield 19, 3) := by decide +kernel
theorem dX3_readBracket_10 : decode cX3_readBracket 10 = .ok (.aload_n 0, 1) := by decide +kernel
theorem dX3_readBracket_11 : decode cX3_readBracket 11 = .ok (.iload_n 1, 1) := by decide +kernel
theorem dX3_readBracket_12 : decode cX3_readBracket 12 = .ok (.iconst 1, 1) := by decide +kernel
theorem dX3_readBracket_13 : decode cX3_readBracket 13 = .ok (.iadd, 1) := by decide +kernel
theorem dX3_readBracket_14 : decode cX3_readBracket 14 = .ok (.invokevirtual 88, 3) := by decide +kernel
theorem dX3_readBracket_17 : decode cX3_readBracket 17 = .ok (.istore_n 2, 1) := by decide +kernel
theorem dX3_readBracket_18 : decode cX3_readBracket 18 = .ok (.aload_n 0, 1) := by decide +kernel
theorem dX3_readBracket_19 : decode cX3_readBracket 19 = .ok (.getfield 22, 3) := by decide +kernel
theorem dX3_readBracket_22 : decode cX3_readBracket 22 = .ok (.iconst (-1), 1) := by decide +kernel
theorem dX3_readBracket_23 : decode cX3_readBracket 23 = .ok (.if_icmp .eq 5, 3) := by decide +kernel
theorem dX3_readBracket_26 : decode cX3_readBracket 26 = .ok (.iconst 0, 1) := by decide +kernel
theorem dX3_readBracket_27 : decode cX3_readBracket 27 = .ok (.ireturn, 1) := by decide +kernel
theorem dX3_readBracket_28 : decode cX3_readBracket 28 = .ok (.aload_n 0, 1) := by decide +kernel
theorem dX3_readBracket_29 : decode cX3_readBracket 29 = .ok (.invokevirtual 62, 3) := by decide +kernel
theorem dX3_readBracket_32 : decode cX3_readBracket 32 = .ok (.bipush 41, 2) := by decide +kernel
theorem dX3_readBracket_34 : decode cX3_readBracket 34 = .ok (.if_icmp .ne 16, 3) := by decide +kernel
theorem dX3_readBracket_37 : decode cX3_readBracket 37 = .ok (.aload_n 0, 1) := by decide +kernel
theorem dX3_readBracket_38 : decode cX3_readBracket 38 = .ok (.dup, 1) := by decide +kernel
theorem dX3_readBracket_39 : decode cX3_readBracket 39 = .ok (.getfield 19, 3) := by decide +kernel
theorem dX3_readBracket_42 : decode cX3_readBracket 42 = .ok (.iconst 1, 1) := by decide +kernel
theorem dX3_readBracket_43 : decode cX3_readBracket 43 = .ok (.iadd, 1) := by decide +kernel
theorem dX3_readBracket_44 : decode cX3_readBracket 44 = .ok (.putfield 19, 3) := by decide +kernel
theorem dX3_readBracket_47 : decode cX3_readBracket 47 = .ok (.goto 11, 3) := by decide +kernel
theorem dX3_readBracket_50 : decode cX3_readBracket 50 = .ok (.aload_n 0, 1) := by decide +kernel
theorem dX3_readBracket_51 : decode cX3_readBracket 51 = .ok (.aload_n 0, 1) := by decide +kernel
theorem dX3_readBracket_52 : decode cX3_readBracket 52 = .ok (.getfield 19, 3) := by decide +kernel
theorem dX3_readBracket_55 : decode cX3_readBracket 55 = .ok (.putfield 22, 3) := by decide +kernel
theorem dX3_readBracket_58 : decode cX3_readBracket 58 = .ok (.iload_n 2, 1) := by decide +kernel
theorem dX3_readBracket_59 : decode cX3_readBracket 59 = .ok (.ireturn, 1) := by decide +kernel
theorem dX3_readNumber_0 : decode cX3_readNumber 0 = .ok (.iconst 0, 1) := by decide +kernel
theorem dX3_readNumber_1 : decode cX3_readNumber 1 = .ok (.istore_n 1, 1) := by decide +kernel
theorem dX3_readNumber_2 : decode cX3_readNumber 2 = .ok (.iconst 0, 1) := by decide +kernel
theorem dX3_readNumber_3 : decode cX3_readNumber 3 = .ok (.istore_n 2, 1) := by decide +kernel
theorem dX3_readNumber_4 : decode cX3_readNumber 4 = .ok (.iload_n 2, 1) := by decide +kernel
theorem dX3_readNumber_5 : decode cX3_readNumber 5 = .ok (.iconst 3, 1) := by decide +kernel
theorem dX3_readNumber_6 : decode cX3_readNumber 6 = .ok (.if_icmp .ge 42, 3) := by decide +kernel
theorem dX3_readNumber_9 : decode cX3_readNumber 9 = .ok (.aload_n 0, 1) := by decide +kernel
theorem dX3_readNumber_10 : decode cX3_readNumber 10 = .ok (.invokevirtual 62, 3) := by decide +kernel
theorem dX3_readNumber_13 : decode cX3_readNumber 13 = .ok (.invokestatic 106, 3) := by decide +kernel
theorem dX3_readNumber_16 : decode cX3_readNumber 16 = .ok (.ifCond .eq 32, 3) := by decide +kernel
theorem dX3_readNumber_19 : decode cX3_readNumber 19 = .ok (.bipush 10, 2) := by decide +kernel
theorem dX3_readNumber_21 : decode cX3_readNumber 21 = .ok (.iload_n 1, 1) := by decide +kernel
theorem dX3_readNumber_22 : decode cX3_readNumber 22 = .ok (.imul, 1) := by decide +kernel
theorem dX3_readNumber_23 : decode cX3_readNumber 23 = .ok (.aload_n 0, 1) := by decide +kernel
theorem dX3_readNumber_24 : decode cX3_readNumber 24 = .ok (.invokevirtual 62, 3) := by decide +kernel
theorem dX3_readNumber_27 : decode cX3_readNumber 27 = .ok (.iadd, 1) := by decide +kernel
theorem dX3_readNumber_28 : decode cX3_readNumber 28 = .ok (.bipush 48, 2) := by decide +kernel
theorem dX3_readNumber_30 : decode cX3_readNumber 30 = .ok (.isub, 1) := by decide +kernel
theorem dX3_readNumber_31 : decode cX3_readNumber 31 = .ok (.istore_n 1, 1) := by decide +kernel
theorem dX3_readNumber_32 : decode cX3_readNumber 32 = .ok (.aload_n 0, 1) := by decide +kernel
theorem dX3_readNumber_33 : decode cX3_readNumber 33 = .ok (.dup, 1) := by decide +kernel
theorem dX3_readNumber_34 : decode cX3_readNumber 34 = .ok (.getfield 19, 3) := by decide +kernel
theorem dX3_readNumber_37 : decode cX3_readNumber 37 = .ok (.iconst 1, 1) := by decide +kernel
theorem dX3_readNumber_38 : decode cX3_readNumber 38 = .ok (.iadd, 1) := by decide +kernel
theorem dX3_readNumber_39 : decode cX3_readNumber 39 = .ok (.putfield 19, 3) := by decide +kernel
theorem dX3_readNumber_42 : decode cX3_readNumber 42 = .ok (.iinc 2 1, 3) := by decide +kernel
theorem dX3_readNumber_45 : decode cX3_readNumber 45 = .ok (.goto (-41), 3) := by decide +kernel
theorem dX3_readNumber_48 : decode cX3_readNumber 48 = .ok (.iload_n 1, 1) := by decide +kernel
theorem dX3_readNumber_49 : decode cX3_readNumber 49 = .ok (.ireturn, 1) := by decide +kernel
theorem dX3_isDigit_0 : decode cX3_isDigit 0 = .ok (.iload_n 0, 1) := by decide +kernel
theorem dX3_isDigit_1 : decode cX3_isDigit 1 = .ok (.bipush 48, 2) := by decide +kernel
theorem dX3_isDigit_3 : decode cX3_isDigit 3 = .ok (.if_icmp .lt 13, 3) := by decide +kernel
theorem dX3_isDigit_6 : decode cX3_isDigit 6 = .ok (.iload_n 0, 1) := by decide +kernel
theorem dX3_isDigit_7 : decode cX3_isDigit 7 = .ok (.bipush 57, 2) := by decide +kernel
theorem dX3_isDigit_9 : decode cX3_isDigit 9 = .ok (.if_icmp .gt 7, 3) := by decide +kernel
theorem dX3_isDigit_12 : decode cX3_isDigit 12 = .ok (.iconst 1, 1) := by decide +kernel
theorem dX3_isDigit_13 : decode cX3_isDigit 13 = .ok (.goto 4, 3) := by decide +kernel
theorem dX3_isDigit_16 : decode cX3_isDigit 16 = .ok (.iconst 0, 1) := by decide +kernel
theorem dX3_isDigit_17 : decode cX3_isDigit 17 = .ok (.ireturn, 1) := by decide +kernel
theorem dX3_sign_0 : decode cX3_sign 0 = .ok (.aload_n 0, 1) := by decide +kernel
theorem dX3_sign_1 : decode cX3_sign 1 = .ok (.getfield 19, 3) := by decide +kernel
theorem dX3_sign_4 : decode cX3_sign 4 = .ok (.ifCond .lt 42, 3) := by decide +kernel
theorem dX3_sign_7 : decode cX3_sign 7 = .ok (.aload_n 0, 1) := by decide +kernel
theorem dX3_sign_8 : decode cX3_sign 8 = .ok (.getfield 19, 3) := by decide +kernel
theorem dX3_sign_11 : decode cX3_sign 11 = .ok (.aload_n 0, 1) := by decide +kernel
theorem dX3_sign_12 : decode cX3_sign 12 = .ok (.getfield 15, 3) := by decide +kernel
theorem dX3_sign_15 : decode cX3_sign 15 = .ok (.if_icmp .ge 31, 3) := by decide +kernel
theorem dX3_sign_18 : decode cX3_sign 18 = .ok (.aload_n 0, 1) := by decide +kernel
theorem dX3_sign_19 : decode cX3_sign 19 = .ok (.getfield 19, 3) := by decide +kernel
theorem dX3_sign_22 : decode cX3_sign 22 = .ok (.aload_n 0, 1) := by decide +kernel
theorem dX3_sign_23 : decode cX3_sign 23 = .ok (.getfield 9, 3) := by decide +kernel
theorem dX3_sign_26 : decode cX3_sign 26 = .ok (.arraylength, 1) := by decide +kernel
theorem dX3_sign_27 : decode cX3_sign 27 = .ok (.if_icmp .ge 19, 3) := by decide +kernel
theorem dX3_sign_30 : decode cX3_sign 30 = .ok (.aload_n 0, 1) := by decide +kernel
theorem dX3_sign_31 : decode cX3_sign 31 = .ok (.getfield 9, 3) := by decide +kernel
theorem dX3_sign_34 : decode cX3_sign 34 = .ok (.aload_n 0, 1) := by decide +kernel
theorem dX3_sign_35 : decode cX3_sign 35 = .ok (.getfield 19, 3) := by decide +kernel
theorem dX3_sign_38 : decode cX3_sign 38 = .ok (.baload, 1) := by decide +kernel
theorem dX3_sign_39 : decode cX3_sign 39 = .ok (.sipush 255, 3) := by decide +kernel
theorem dX3_sign_42 : decode cX3_sign 42 = .ok (.iand, 1) := by decide +kernel
theorem dX3_sign_43 : decode cX3_sign 43 = .ok (.goto 4, 3) := by decide +kernel
theorem dX3_sign_46 : decode cX3_sign 46 = .ok (.iconst (-1), 1) := by decide +kernel
theorem dX3_sign_47 : decode cX3_sign 47 = .ok (.ireturn, 1) := by decide +kernel
theorem dX4_has_12 : decode cX4_has 12 = .ok (.iconst 1, 1) := by decide +kernel
theorem dX4_has_13 : decode cX4_has 13 = .ok (.goto 4, 3) := by decide +kernel
theorem dX4_find_0 : decode cX4_find 0 = .ok (.iconst 0, 1) := by decide +kernel
theorem dX4_find_1 : decode cX4_find 1 = .ok (.istore 4, 2) := by decide +kernel
theorem dX4_find_3 : decode cX4_find 3 = .ok (.iload 4, 2) := by decide +kernel
theorem dX4_find_5 : decode cX4_find 5 = .ok (.aload_n 0, 1) := by decide +kernel
theorem dX4_find_6 : decode cX4_find 6 = .ok (.getfield 24, 3) := by decide +kernel
theorem dX4_find_9 : decode cX4_find 9 = .ok (.if_icmp .ge 39, 3) := by decide +kernel
theorem dX4_find_12 : decode cX4_find 12 = .ok (.aload_n 0, 1) := by decide +kernel
theorem dX4_find_13 : decode cX4_find 13 = .ok (.getfield 16, 3) := by decide +kernel
theorem dX4_find_16 : decode cX4_find 16 = .ok (.iload 4, 2) := by decide +kernel
theorem dX4_find_18 : decode cX4_find 18 = .ok (.iaload, 1) := by decide +kernel
theorem dX4_find_19 : decode cX4_find 19 = .ok (.iload_n 3, 1) := by decide +kernel
theorem dX4_find_20 : decode cX4_find 20 = .ok (.if_icmp .ne 22, 3) := by decide +kernel
theorem dX4_find_23 : decode cX4_find 23 = .ok (.aload_n 0, 1) := by decide +kernel
theorem dX4_find_24 : decode cX4_find 24 = .ok (.getfield 11, 3) := by decide +kernel
theorem dX4_find_27 : decode cX4_find 27 = .ok (.iload 4, 2) := by decide +kernel
theorem dX4_find_29 : decode cX4_find 29 = .ok (.aaload, 1) := by decide +kernel
theorem dX4_find_30 : decode cX4_find 30 = .ok (.aload_n 1, 1) := by decide +kernel
theorem dX4_find_31 : decode cX4_find 31 = .ok (.iload_n 2, 1) := by decide +kernel
theorem dX4_find_32 : decode cX4_find 32 = .ok (.iload_n 3, 1) := by decide +kernel
theorem dX4_find_33 : decode cX4_find 33 = .ok (.invokestatic 28, 3) := by decide +kernel
theorem dX4_find_36 : decode cX4_find 36 = .ok (.ifCond .eq 6, 3) := by decide +kernel
theorem dX4_find_39 : decode cX4_find 39 = .ok (.iload 4, 2) := by decide +kernel
theorem dX4_find_41 : decode cX4_find 41 = .ok (.ireturn, 1) := by decide +kernel
theorem dX4_find_42 : decode cX4_find 42 = .ok (.iinc 4 1, 3) := by decide +kernel
theorem dX4_find_45 : decode cX4_find 45 = .ok (.goto (-42), 3) := by decide +kernel
theorem dX4_find_48 : decode cX4_find 48 = .ok (.iconst (-1), 1) := by decide +kernel
theorem dX4_find_49 : decode cX4_find 49 = .ok (.ireturn, 1) := by decide +kernel
theorem dX4_isAlike_0 : decode cX4_isAlike 0 = .ok (.iconst 0, 1) := by decide +kernel
theorem dX4_isAlike_1 : decode cX4_isAlike 1 = .ok (.istore 4, 2) := by decide +kernel
theorem dX4_isAlike_3 : decode cX4_isAlike 3 = .ok (.iload 4, 2) := by decide +kernel
theorem dX4_isAlike_5 : decode cX4_isAlike 5 = .ok (.iload_n 3, 1) := by decide +kernel
theorem dX4_isAlike_6 : decode cX4_isAlike 6 = .ok (.if_icmp .ge 24, 3) := by decide +kernel
theorem dX4_isAlike_9 : decode cX4_isAlike 9 = .ok (.aload_n 0, 1) := by decide +kernel
theorem dX4_isAlike_10 : decode cX4_isAlike 10 = .ok (.iload 4, 2) := by decide +kernel
theorem dX4_isAlike_12 : decode cX4_isAlike 12 = .ok (.baload, 1) := by decide +kernel
theorem dX4_isAlike_13 : decode cX4_isAlike 13 = .ok (.aload_n 1, 1) := by decide +kernel
theorem dX4_isAlike_14 : decode cX4_isAlike 14 = .ok (.iload_n 2, 1) := by decide +kernel
theorem dX4_isAlike_15 : decode cX4_isAlike 15 = .ok (.iload 4, 2) := by decide +kernel
theorem dX4_isAlike_17 : decode cX4_isAlike 17 = .ok (.iadd, 1) := by decide +kernel
theorem dX4_isAlike_18 : decode cX4_isAlike 18 = .ok (.baload, 1) := by decide +kernel
theorem dX4_isAlike_19 : decode cX4_isAlike 19 = .ok (.if_icmp .eq 5, 3) := by decide +kernel
theorem dX4_isAlike_22 : decode cX4_isAlike 22 = .ok (.iconst 0, 1) := by decide +kernel
theorem dX4_isAlike_23 : decode cX4_isAlike 23 = .ok (.ireturn, 1) := by decide +kernel
theorem dX4_isAlike_24 : decode cX4_isAlike 24 = .ok (.iinc 4 1, 3) := by decide +kernel
theorem dX4_isAlike_27 : decode cX4_isAlike 27 = .ok (.goto (-24), 3) := by decide +kernel
theorem dX4_isAlike_30 : decode cX4_isAlike 30 = .ok (.iconst 1, 1) := by decide +kernel
theorem dX4_isAlike_31 : decode cX4_isAlike 31 = .ok (.ireturn, 1) := by decide +kernel
theorem dX4_add_0 : decode cX4_add 0 = .ok (.aload_n 0, 1) := by decide +kernel
theorem dX4_add_1 : decode cX4_add 1 = .ok (.getfield 24, 3) := by decide +kernel
theorem dX4_add_4 : decode cX4_add 4 = .ok (.bipush 40, 2) := by decide +kernel
theorem dX4_add_6 : decode cX4_add 6 = .ok (.if_icmp .lt 5, 3) := by decide +kernel
theorem dX4_add_9 : decode cX4_add 9 = .ok (.iconst (-1), 1) := by decide +kernel
theorem dX4_add_10 : decode cX4_add 10 = .ok (.ireturn, 1) := by decide +kernel
theorem dX4_add_11 : decode cX4_add 11 = .ok (.aload_n 1, 1) := by decide +kernel
theorem dX4_add_12 : decode cX4_add 12 = .ok (.iload_n 2, 1) := by decide +kernel
theorem dX4_add_13 : decode cX4_add 13 = .ok (.aload_n 0, 1) := by decide +kernel
theorem dX4_add_14 : decode cX4_add 14 = .ok (.getfield 11, 3) := by decide +kernel
theorem dX4_add_17 : decode cX4_add 17 = .ok (.aload_n 0, 1) := by decide +kernel
theorem dX4_add_18 : decode cX4_add 18 = .ok (.getfield 24, 3) := by decide +kernel
theorem dX4_add_21 : decode cX4_add 21 = .ok (.aaload, 1) := by decide +kernel
theorem dX4_add_22 : decode cX4_add 22 = .ok (.iconst 0, 1) := by decide +kernel
theorem dX4_add_23 : decode cX4_add 23 = .ok (.iload_n 3, 1) := by decide +kernel
theorem dX4_add_24 : decode cX4_add 24 = .ok (.invokestatic 32, 3) := by decide +kernel
theorem dX4_add_27 : decode cX4_add 27 = .ok (.aload_n 0, 1) := by decide +kernel
theorem dX4_add_28 : decode cX4_add 28 = .ok (.getfield 16, 3) := by decide +kernel
theorem dX4_add_31 : decode cX4_add 31 = .ok (.aload_n 0, 1) := by decide +kernel
theorem dX4_add_32 : decode cX4_add 32 = .ok (.getfield 24, 3) := by decide +kernel
theorem dX4_add_35 : decode cX4_add 35 = .ok (.iload_n 3, 1) := by decide +kernel
theorem dX4_add_36 : decode cX4_add 36 = .ok (.iastore, 1) := by decide +kernel
theorem dX4_add_37 : decode cX4_add 37 = .ok (.aload_n 0, 1) := by decide +kernel
theorem dX4_add_38 : decode cX4_add 38 = .ok (.dup, 1) := by decide +kernel
theorem dX4_add_39 : decode cX4_add 39 = .ok (.getfield 24, 3) := by decide +kernel
theorem dX4_add_42 : decode cX4_add 42 = .ok (.iconst 1, 1) := by decide +kernel
theorem dX4_add_43 : decode cX4_add 43 = .ok (.iadd, 1) := by decide +kernel
theorem dX4_add_44 : decode cX4_add 44 = .ok (.putfield 24, 3) := by decide +kernel
theorem dX4_add_47 : decode cX4_add 47 = .ok (.aload_n 0, 1) := by decide +kernel
theorem dX4_add_48 : decode cX4_add 48 = .ok (.getfield 24, 3) := by decide +kernel
theorem dX4_add_51 : decode cX4_add 51 = .ok (.iconst 1, 1) := by decide +kernel
theorem dX4_add_52 : decode cX4_add 52 = .ok (.isub, 1) := by decide +kernel
theorem dX4_add_53 : decode cX4_add 53 = .ok (.ireturn, 1) := by decide +kernel
theorem dX4_placeOf_0 : decode cX4_placeOf 0 = .ok (.iload_n 2, 1) := by decide +kernel
theorem dX4_placeOf_1 : decode cX4_placeOf 1 = .ok (.istore_n 3, 1) := by decide +kernel
theorem dX4_placeOf_2 : decode cX4_placeOf 2 = .ok (.iconst 0, 1) := by decide +kernel
theorem dX4_placeOf_3 : decode cX4_placeOf 3 = .ok (.istore 4, 2) := by decide +kernel
theorem dX4_placeOf_5 : decode cX4_placeOf 5 = .ok (.iload 4, 2) := by decide +kernel
theorem dX4_placeOf_7 : decode cX4_placeOf 7 = .ok (.aload_n 0, 1) := by decide +kernel
theorem dX4_placeOf_8 : decode cX4_placeOf 8 = .ok (.getfield 16, 3) := by decide +kernel
theorem dX4_placeOf_11 : decode cX4_placeOf 11 = .ok (.iload_n 1, 1) := by decide +kernel
theorem dX4_placeOf_12 : decode cX4_placeOf 12 = .ok (.iaload, 1) := by decide +kernel
theorem dX4_placeOf_13 : decode cX4_placeOf 13 = .ok (.if_icmp .ge 28, 3) := by decide +kernel
theorem dX4_placeOf_16 : decode cX4_placeOf 16 = .ok (.iload_n 3, 1) := by decide +kernel
theorem dX4_placeOf_17 : decode cX4_placeOf 17 = .ok (.aload_n 0, 1) := by decide +kernel
theorem dX4_placeOf_18 : decode cX4_placeOf 18 = .ok (.getfield 11, 3) := by decide +kernel
theorem dX4_placeOf_21 : decode cX4_placeOf 21 = .ok (.iload_n 1, 1) := by decide +kernel
theorem dX4_placeOf_22 : decode cX4_placeOf 22 = .ok (.aaload, 1) := by decide +kernel
theorem dX4_placeOf_23 : decode cX4_placeOf 23 = .ok (.iload 4, 2) := by decide +kernel
theorem dX4_placeOf_25 : decode cX4_placeOf 25 = .ok (.baload, 1) := by decide +kernel
theorem dX4_placeOf_26 : decode cX4_placeOf 26 = .ok (.sipush 255, 3) := by decide +kernel
theorem dX4_placeOf_29 : decode cX4_placeOf 29 = .ok (.iand, 1) := by decide +kernel
theorem dX4_placeOf_30 : decode cX4_placeOf 30 = .ok (.ixor, 1) := by decide +kernel
theorem dX4_placeOf_31 : decode cX4_placeOf 31 = .ok (.ldc 38, 2) := by decide +kernel
theorem dX4_placeOf_33 : decode cX4_placeOf 33 = .ok (.imul, 1) := by decide +kernel
theorem dX4_placeOf_34 : decode cX4_placeOf 34 = .ok (.istore_n 3, 1) := by decide +kernel
theorem dX4_placeOf_35 : decode cX4_placeOf 35 = .ok (.iinc 4 1, 3) := by decide +kernel
theorem dX4_placeOf_38 : decode cX4_placeOf 38 = .ok (.goto (-33), 3) := by decide +kernel
theorem dX4_placeOf_41 : decode cX4_placeOf 41 = .ok (.iload_n 3, 1) := by decide +kernel
theorem dX4_placeOf_42 : decode cX4_placeOf 42 = .ok (.bipush 7, 2) := by decide +kernel
theorem dX4_placeOf_44 : decode cX4_placeOf 44 = .ok (.iushr, 1) := by decide +kernel
theorem dX4_placeOf_45 : decode cX4_placeOf 45 = .ok (.sipush 1000, 3) := by decide +kernel
theorem dX4_placeOf_48 : decode cX4_placeOf 48 = .ok (.irem, 1) := by decide +kernel
theorem dX4_placeOf_49 : decode cX4_placeOf 49 = .ok (.ireturn, 1) := by decide +kernel
theorem dX4_addFrom_0 : decode cX4_addFrom 0 = .ok (.iconst 0, 1) := by decide +kernel
theorem dX4_addFrom_1 : decode cX4_addFrom 1 = .ok (.istore 5, 2) := by decide +kernel
theorem dX4_addFrom_3 : decode cX4_addFrom 3 = .ok (.iload_n 3, 1) := by decide +kernel
theorem dX4_addFrom_4 : decode cX4_addFrom 4 = .ok (.istore 6, 2) := by decide +kernel
theorem dX4_addFrom_6 : decode cX4_addFrom 6 = .ok (.iconst 0, 1) := by decide +kernel
theorem dX4_addFrom_7 : decode cX4_addFrom 7 = .ok (.istore 7, 2) := by decide +kernel
theorem dX4_addFrom_9 : decode cX4_addFrom 9 = .ok (.iload 7, 2) := by decide +kernel
theorem dX4_addFrom_11 : decode cX4_addFrom 11 = .ok (.iload 4, 2) := by decide +kernel
theorem dX4_addFrom_13 : decode cX4_addFrom 13 = .ok (.if_icmp .ge 146, 3) := by decide +kernel
theorem dX4_addFrom_16 : decode cX4_addFrom 16 = .ok (.iload 6, 2) := by decide +kernel
theorem dX4_addFrom_18 : decode cX4_addFrom 18 = .ok (.ifCond .lt 9, 3) := by decide +kernel
theorem dX4_addFrom_21 : decode cX4_addFrom 21 = .ok (.iload 6, 2) := by decide +kernel
theorem dX4_addFrom_23 : decode cX4_addFrom 23 = .ok (.iload_n 2, 1) := by decide +kernel
theorem dX4_addFrom_24 : decode cX4_addFrom 24 = .ok (.if_icmp .lt 6, 3) := by decide +kernel
theorem dX4_addFrom_27 : decode cX4_addFrom 27 = .ok (.iload 5, 2) := by decide +kernel
theorem dX4_addFrom_29 : decode cX4_addFrom 29 = .ok (.ireturn, 1) := by decide +kernel
theorem dX4_addFrom_30 : decode cX4_addFrom 30 = .ok (.aload_n 1, 1) := by decide +kernel
theorem dX4_addFrom_31 : decode cX4_addFrom 31 = .ok (.iload 6, 2) := by decide +kernel
theorem dX4_addFrom_33 : decode cX4_addFrom 33 = .ok (.laload, 1) := by decide +kernel
theorem dX4_addFrom_34 : decode cX4_addFrom 34 = .ok (.lstore 8, 2) := by decide +kernel
theorem dX4_addFrom_36 : decode cX4_addFrom 36 = .ok (.lload 8, 2) := by decide +kernel
theorem dX4_addFrom_38 : decode cX4_addFrom 38 = .ok (.lconst 1, 1) := by decide +kernel
theorem dX4_addFrom_39 : decode cX4_addFrom 39 = .ok (.lcmp, 1) := by decide +kernel
theorem dX4_addFrom_40 : decode cX4_addFrom 40 = .ok (.ifCond .lt 23, 3) := by decide +kernel
theorem dX4_addFrom_43 : decode cX4_addFrom 43 = .ok (.lload 8, 2) := by decide +kernel
theorem dX4_addFrom_45 : decode cX4_addFrom 45 = .ok (.ldc2_w 39, 3) := by decide +kernel
theorem dX4_addFrom_48 : decode cX4_addFrom 48 = .ok (.lcmp, 1) := by decide +kernel
theorem dX4_addFrom_49 : decode cX4_addFrom 49 = .ok (.ifCond .gt 14, 3) := by decide +kernel
theorem dX4_addFrom_52 : decode cX4_addFrom 52 = .ok (.lload 8, 2) := by decide +kernel
theorem dX4_addFrom_54 : decode cX4_addFrom 54 = .ok (.iload_n 2, 1) := by decide +kernel
theorem dX4_addFrom_55 : decode cX4_addFrom 55 = .ok (.iload 6, 2) := by decide +kernel
theorem dX4_addFrom_57 : decode cX4_addFrom 57 = .ok (.isub, 1) := by decide +kernel
theorem dX4_addFrom_58 : decode cX4_addFrom 58 = .ok (.i2l, 1) := by decide +kernel
theorem dX4_addFrom_59 : decode cX4_addFrom 59 = .ok (.lcmp, 1) := by decide +kernel
theorem dX4_addFrom_60 : decode cX4_addFrom 60 = .ok (.ifCond .lt 6, 3) := by decide +kernel
theorem dX4_addFrom_63 : decode cX4_addFrom 63 = .ok (.iload 5, 2) := by decide +kernel
theorem dX4_addFrom_65 : decode cX4_addFrom 65 = .ok (.ireturn, 1) := by decide +kernel
theorem dX4_addFrom_66 : decode cX4_addFrom 66 = .ok (.lload 8, 2) := by decide +kernel
theorem dX4_addFrom_68 : decode cX4_addFrom 68 = .ok (.l2i, 1) := by decide +kernel
theorem dX4_addFrom_69 : decode cX4_addFrom 69 = .ok (.istore 10, 2) := by decide +kernel
theorem dX4_addFrom_71 : decode cX4_addFrom 71 = .ok (.iconst 0, 1) := by decide +kernel
theorem dX4_addFrom_72 : decode cX4_addFrom 72 = .ok (.istore 11, 2) := by decide +kernel
theorem dX4_addFrom_74 : decode cX4_addFrom 74 = .ok (.iload 11, 2) := by decide +kernel
theorem dX4_addFrom_76 : decode cX4_addFrom 76 = .ok (.iload 10, 2) := by decide +kernel
theorem dX4_addFrom_78 : decode cX4_addFrom 78 = .ok (.if_icmp .ge 27, 3) := by decide +kernel
theorem dX4_addFrom_81 : decode cX4_addFrom 81 = .ok (.aload_n 0, 1) := by decide +kernel
theorem dX4_addFrom_82 : decode cX4_addFrom 82 = .ok (.getfield 20, 3) := by decide +kernel
theorem dX4_addFrom_85 : decode cX4_addFrom 85 = .ok (.iload 11, 2) := by decide +kernel
theorem dX4_addFrom_87 : decode cX4_addFrom 87 = .ok (.aload_n 1, 1) := by decide +kernel
theorem dX4_addFrom_88 : decode cX4_addFrom 88 = .ok (.iload 6, 2) := by decide +kernel
theorem dX4_addFrom_90 : decode cX4_addFrom 90 = .ok (.iconst 1, 1) := by decide +kernel
theorem dX4_addFrom_91 : decode cX4_addFrom 91 = .ok (.iadd, 1) := by decide +kernel
theorem dX4_addFrom_92 : decode cX4_addFrom 92 = .ok (.iload 11, 2) := by decide +kernel
theorem dX4_addFrom_94 : decode cX4_addFrom 94 = .ok (.iadd, 1) := by decide +kernel
theorem dX4_addFrom_95 : decode cX4_addFrom 95 = .ok (.laload, 1) := by decide +kernel
theorem dX4_addFrom_96 : decode cX4_addFrom 96 = .ok (.l2i, 1) := by decide +kernel
theorem dX4_addFrom_97 : decode cX4_addFrom 97 = .ok (.i2b, 1) := by decide +kernel
theorem dX4_addFrom_98 : decode cX4_addFrom 98 = .ok (.bastore, 1) := by decide +kernel
theorem dX4_addFrom_99 : decode cX4_addFrom 99 = .ok (.iinc 11 1, 3) := by decide +kernel
theorem dX4_addFrom_102 : decode cX4_addFrom 102 = .ok (.goto (-28), 3) := by decide +kernel
theorem dX4_addFrom_105 : decode cX4_addFrom 105 = .ok (.iload 6, 2) := by decide +kernel
theorem dX4_addFrom_107 : decode cX4_addFrom 107 = .ok (.iconst 1, 1) := by decide +kernel
theorem dX4_addFrom_108 : decode cX4_addFrom 108 = .ok (.iload 10, 2) := by decide +kernel
theorem dX4_addFrom_110 : decode cX4_addFrom 110 = .ok (.iadd, 1) := by decide +kernel
theorem dX4_addFrom_111 : decode cX4_addFrom 111 = .ok (.iadd, 1) := by decide +kernel
theorem dX4_addFrom_112 : decode cX4_addFrom 112 = .ok (.istore 6, 2) := by decide +kernel
theorem dX4_addFrom_114 : decode cX4_addFrom 114 = .ok (.aload_n 0, 1) := by decide +kernel
theorem dX4_addFrom_115 : decode cX4_addFrom 115 = .ok (.aload_n 0, 1) := by decide +kernel
theorem dX4_addFrom_116 : decode cX4_addFrom 116 = .ok (.getfield 20, 3) := by decide +kernel
theorem dX4_addFrom_119 : decode cX4_addFrom 119 = .ok (.iconst 0, 1) := by decide +kernel
theorem dX4_addFrom_120 : decode cX4_addFrom 120 = .ok (.iload 10, 2) := by decide +kernel
theorem dX4_addFrom_122 : decode cX4_addFrom 122 = .ok (.invokevirtual 41, 3) := by decide +kernel
theorem dX4_addFrom_125 : decode cX4_addFrom 125 = .ok (.iconst (-1), 1) := by decide +kernel
theorem dX4_addFrom_126 : decode cX4_addFrom 126 = .ok (.if_icmp .eq 6, 3) := by decide +kernel
theorem dX4_addFrom_129 : decode cX4_addFrom 129 = .ok (.goto 24, 3) := by decide +kernel
theorem dX4_addFrom_132 : decode cX4_addFrom 132 = .ok (.aload_n 0, 1) := by decide +kernel
theorem dX4_addFrom_133 : decode cX4_addFrom 133 = .ok (.aload_n 0, 1) := by decide +kernel
theorem dX4_addFrom_134 : decode cX4_addFrom 134 = .ok (.getfield 20, 3) := by decide +kernel
theorem dX4_addFrom_137 : decode cX4_addFrom 137 = .ok (.iconst 0, 1) := by decide +kernel
theorem dX4_addFrom_138 : decode cX4_addFrom 138 = .ok (.iload 10, 2) := by decide +kernel
theorem dX4_addFrom_140 : decode cX4_addFrom 140 = .ok (.invokevirtual 45, 3) := by decide +kernel
theorem dX4_addFrom_143 : decode cX4_addFrom 143 = .ok (.iconst (-1), 1) := by decide +kernel
theorem dX4_addFrom_144 : decode cX4_addFrom 144 = .ok (.if_icmp .ne 6, 3) := by decide +kernel
theorem dX4_addFrom_147 : decode cX4_addFrom 147 = .ok (.iload 5, 2) := by decide +kernel
theorem dX4_addFrom_149 : decode cX4_addFrom 149 = .ok (.ireturn, 1) := by decide +kernel
theorem dX4_addFrom_150 : decode cX4_addFrom 150 = .ok (.iinc 5 1, 3) := by decide +kernel
theorem dX4_addFrom_153 : decode cX4_addFrom 153 = .ok (.iinc 7 1, 3) := by decide +kernel
theorem dX4_addFrom_156 : decode cX4_addFrom 156 = .ok (.goto (-147), 3) := by decide +kernel
theorem dX4_addFrom_159 : decode cX4_addFrom 159 = .ok (.iload 5, 2) := by decide +kernel
theorem dX4_addFrom_161 : decode cX4_addFrom 161 = .ok (.ireturn, 1) := by decide +kernel
theorem dX5_isTold_0 : decode cX5_isTold 0 = .ok (.iconst 0, 1) := by decide +kernel
theorem dX5_isTold_1 : decode cX5_isTold 1 = .ok (.istore_n 2, 1) := by decide +kernel
theorem dX5_isTold_2 : decode cX5_isTold 2 = .ok (.iload_n 2, 1) := by decide +kernel
theorem dX5_isTold_3 : decode cX5_isTold 3 = .ok (.aload_n 0, 1) := by decide +kernel
theorem dX5_isTold_4 : decode cX5_isTold 4 = .ok (.getfield 15, 3) := by decide +kernel
theorem dX5_isTold_7 : decode cX5_isTold 7 = .ok (.if_icmp .ge 21, 3) := by decide +kernel
theorem dX5_isTold_10 : decode cX5_isTold 10 = .ok (.aload_n 0, 1) := by decide +kernel
theorem dX5_isTold_11 : decode cX5_isTold 11 = .ok (.getfield 9, 3) := by decide +kernel
theorem dX5_isTold_14 : decode cX5_isTold 14 = .ok (.iload_n 2, 1) := by decide +kernel
theorem dX5_isTold_15 : decode cX5_isTold 15 = .ok (.iaload, 1) := by decide +kernel
theorem dX5_isTold_16 : decode cX5_isTold 16 = .ok (.iload_n 1, 1) := by decide +kernel
theorem dX5_isTold_17 : decode cX5_isTold 17 = .ok (.if_icmp .ne 5, 3) := by decide +kernel
theorem dX5_isTold_20 : decode cX5_isTold 20 = .ok (.iconst 1, 1) := by decide +kernel
theorem dX5_isTold_21 : decode cX5_isTold 21 = .ok (.ireturn, 1) := by decide +kernel
theorem dX5_isTold_22 : decode cX5_isTold 22 = .ok (.iinc 2 1, 3) := by decide +kernel
theorem dX5_isTold_25 : decode cX5_isTold 25 = .ok (.goto (-23), 3) := by decide +kernel
theorem dX5_isTold_28 : decode cX5_isTold 28 = .ok (.iconst 0, 1) := by decide +kernel
theorem dX5_isTold_29 : decode cX5_isTold 29 = .ok (.ireturn, 1) := by decide +kernel
theorem dX5_leastFrom_0 : decode cX5_leastFrom 0 = .ok (.iconst 1, 1) := by decide +kernel
theorem dX5_leastFrom_1 : decode cX5_leastFrom 1 = .ok (.aload_n 0, 1) := by decide +kernel
theorem dX5_leastFrom_2 : decode cX5_leastFrom 2 = .ok (.getfield 15, 3) := by decide +kernel
theorem dX5_leastFrom_5 : decode cX5_leastFrom 5 = .ok (.ishl, 1) := by decide +kernel
theorem dX5_leastFrom_6 : decode cX5_leastFrom 6 = .ok (.iconst 1, 1) := by decide +kernel
theorem dX5_leastFrom_7 : decode cX5_leastFrom 7 = .ok (.isub, 1) := by decide +kernel
theorem dX5_leastFrom_8 : decode cX5_leastFrom 8 = .ok (.istore_n 3, 1) := by decide +kernel
theorem dX5_leastFrom_9 : decode cX5_leastFrom 9 = .ok (.iload_n 3, 1) := by decide +kernel
theorem dX5_leastFrom_10 : decode cX5_leastFrom 10 = .ok (.istore 4, 2) := by decide +kernel
theorem dX5_leastFrom_12 : decode cX5_leastFrom 12 = .ok (.iload 4, 2) := by decide +kernel
theorem dX5_leastFrom_14 : decode cX5_leastFrom 14 = .ok (.ifCond .lt 54, 3) := by decide +kernel
theorem dX5_leastFrom_17 : decode cX5_leastFrom 17 = .ok (.aload_n 0, 1) := by decide +kernel
theorem dX5_leastFrom_18 : decode cX5_leastFrom 18 = .ok (.aload_n 1, 1) := by decide +kernel
theorem dX5_leastFrom_19 : decode cX5_leastFrom 19 = .ok (.aload_n 2, 1) := by decide +kernel
theorem dX5_leastFrom_20 : decode cX5_leastFrom 20 = .ok (.iload 4, 2) := by decide +kernel
theorem dX5_leastFrom_22 : decode cX5_leastFrom 22 = .ok (.invokevirtual 49, 3) := by decide +kernel
theorem dX5_leastFrom_25 : decode cX5_leastFrom 25 = .ok (.ifCond .eq 29, 3) := by decide +kernel
theorem dX5_leastFrom_28 : decode cX5_leastFrom 28 = .ok (.aload_n 0, 1) := by decide +kernel
theorem dX5_leastFrom_29 : decode cX5_leastFrom 29 = .ok (.getfield 30, 3) := by decide +kernel
theorem dX5_leastFrom_32 : decode cX5_leastFrom 32 = .ok (.iload 4, 2) := by decide +kernel
theorem dX5_leastFrom_34 : decode cX5_leastFrom 34 = .ok (.iload 4, 2) := by decide +kernel
theorem dX5_leastFrom_36 : decode cX5_leastFrom 36 = .ok (.iload_n 3, 1) := by decide +kernel
theorem dX5_leastFrom_37 : decode cX5_leastFrom 37 = .ok (.if_icmp .ne 7, 3) := by decide +kernel
theorem dX5_leastFrom_40 : decode cX5_leastFrom 40 = .ok (.iconst 0, 1) := by decide +kernel
theorem dX5_leastFrom_41 : decode cX5_leastFrom 41 = .ok (.goto 9, 3) := by decide +kernel
theorem dX5_leastFrom_44 : decode cX5_leastFrom 44 = .ok (.aload_n 0, 1) := by decide +kernel
theorem dX5_leastFrom_45 : decode cX5_leastFrom 45 = .ok (.iload 4, 2) := by decide +kernel
theorem dX5_leastFrom_47 : decode cX5_leastFrom 47 = .ok (.invokevirtual 53, 3) := by decide +kernel
theorem dX5_leastFrom_50 : decode cX5_leastFrom 50 = .ok (.iastore, 1) := by decide +kernel
theorem dX5_leastFrom_51 : decode cX5_leastFrom 51 = .ok (.goto 11, 3) := by decide +kernel
theorem dX5_leastFrom_54 : decode cX5_leastFrom 54 = .ok (.aload_n 0, 1) := by decide +kernel
theorem dX5_leastFrom_55 : decode cX5_leastFrom 55 = .ok (.getfield 30, 3) := by decide +kernel
theorem dX5_leastFrom_58 : decode cX5_leastFrom 58 = .ok (.iload 4, 2) := by decide +kernel
theorem dX5_leastFrom_60 : decode cX5_leastFrom 60 = .ok (.iconst (-1), 1) := by decide +kernel
theorem dX5_leastFrom_61 : decode cX5_leastFrom 61 = .ok (.iastore, 1) := by decide +kernel
theorem dX5_leastFrom_62 : decode cX5_leastFrom 62 = .ok (.iinc 4 (-1), 3) := by decide +kernel
theorem dX5_leastFrom_65 : decode cX5_leastFrom 65 = .ok (.goto (-53), 3) := by decide +kernel
theorem dX5_leastFrom_68 : decode cX5_leastFrom 68 = .ok (.aload_n 0, 1) := by decide +kernel
theorem dX5_leastFrom_69 : decode cX5_leastFrom 69 = .ok (.getfield 30, 3) := by decide +kernel
theorem dX5_leastFrom_72 : decode cX5_leastFrom 72 = .ok (.iconst 0, 1) := by decide +kernel
theorem dX5_leastFrom_73 : decode cX5_leastFrom 73 = .ok (.iaload, 1) := by decide +kernel
theorem dX5_leastFrom_74 : decode cX5_leastFrom 74 = .ok (.iconst (-1), 1) := by decide +kernel
theorem dX5_leastFrom_75 : decode cX5_leastFrom 75 = .ok (.if_icmp .ne 5, 3) := by decide +kernel
theorem dX5_leastFrom_78 : decode cX5_leastFrom 78 = .ok (.iconst (-1), 1) := by decide +kernel
theorem dX5_leastFrom_79 : decode cX5_leastFrom 79 = .ok (.ireturn, 1) := by decide +kernel
theorem dX5_leastFrom_80 : decode cX5_leastFrom 80 = .ok (.aload_n 0, 1) := by decide +kernel
theorem dX5_leastFrom_81 : decode cX5_leastFrom 81 = .ok (.iload_n 3, 1) := by decide +kernel
theorem dX5_leastFrom_82 : decode cX5_leastFrom 82 = .ok (.invokevirtual 57, 3) := by decide +kernel
theorem dX5_leastFrom_85 : decode cX5_leastFrom 85 = .ok (.aload_n 0, 1) := by decide +kernel
theorem dX5_leastFrom_86 : decode cX5_leastFrom 86 = .ok (.iconst 0, 1) := by decide +kernel
theorem dX5_leastFrom_87 : decode cX5_leastFrom 87 = .ok (.putfield 15, 3) := by decide +kernel
theorem dX5_leastFrom_90 : decode cX5_leastFrom 90 = .ok (.aload_n 0, 1) := by decide +kernel
theorem dX5_leastFrom_91 : decode cX5_leastFrom 91 = .ok (.getfield 30, 3) := by decide +kernel
theorem dX5_leastFrom_94 : decode cX5_leastFrom 94 = .ok (.iconst 0, 1) := by decide +kernel
theorem dX5_leastFrom_95 : decode cX5_leastFrom 95 = .ok (.iaload, 1) := by decide +kernel
theorem dX5_leastFrom_96 : decode cX5_leastFrom 96 = .ok (.ireturn, 1) := by decide +kernel
theorem dX5_seatSet_0 : decode cX5_seatSet 0 = .ok (.aload_n 2, 1) := by decide +kernel
theorem dX5_seatSet_1 : decode cX5_seatSet 1 = .ok (.aload_n 1, 1) := by decide +kernel
theorem dX5_seatSet_2 : decode cX5_seatSet 2 = .ok (.invokevirtual 61, 3) := by decide +kernel
theorem dX5_seatSet_5 : decode cX5_seatSet 5 = .ok (.iconst 0, 1) := by decide +kernel
theorem dX5_seatSet_6 : decode cX5_seatSet 6 = .ok (.istore 4, 2) := by decide +kernel
theorem dX5_seatSet_8 : decode cX5_seatSet 8 = .ok (.iload 4, 2) := by decide +kernel
theorem dX5_seatSet_10 : decode cX5_seatSet 10 = .ok (.aload_n 0, 1) := by decide +kernel
theorem dX5_seatSet_11 : decode cX5_seatSet 11 = .ok (.getfield 15, 3) := by decide +kernel
theorem dX5_seatSet_14 : decode cX5_seatSet 14 = .ok (.if_icmp .ge 76, 3) := by decide +kernel
theorem dX5_seatSet_17 : decode cX5_seatSet 17 = .ok (.iload_n 3, 1) := by decide +kernel
theorem dX5_seatSet_18 : decode cX5_seatSet 18 = .ok (.iload 4, 2) := by decide +kernel
theorem dX5_seatSet_20 : decode cX5_seatSet 20 = .ok (.ishr, 1) := by decide +kernel
theorem dX5_seatSet_21 : decode cX5_seatSet 21 = .ok (.iconst 1, 1) := by decide +kernel
theorem dX5_seatSet_22 : decode cX5_seatSet 22 = .ok (.iand, 1) := by decide +kernel
theorem dX5_seatSet_23 : decode cX5_seatSet 23 = .ok (.ifCond .ne 6, 3) := by decide +kernel
theorem dX5_seatSet_26 : decode cX5_seatSet 26 = .ok (.goto 58, 3) := by decide +kernel
theorem dX5_seatSet_29 : decode cX5_seatSet 29 = .ok (.aload_n 0, 1) := by decide +kernel
theorem dX5_seatSet_30 : decode cX5_seatSet 30 = .ok (.getfield 9, 3) := by decide +kernel
theorem dX5_seatSet_33 : decode cX5_seatSet 33 = .ok (.iload 4, 2) := by decide +kernel
theorem dX5_seatSet_35 : decode cX5_seatSet 35 = .ok (.iaload, 1) := by decide +kernel
theorem dX5_seatSet_36 : decode cX5_seatSet 36 = .ok (.istore 5, 2) := by decide +kernel
theorem dX5_seatSet_38 : decode cX5_seatSet 38 = .ok (.aload_n 2, 1) := by decide +kernel
theorem dX5_seatSet_39 : decode cX5_seatSet 39 = .ok (.dup, 1) := by decide +kernel
theorem dX5_seatSet_40 : decode cX5_seatSet 40 = .ok (.getfield 67, 3) := by decide +kernel
theorem dX5_seatSet_43 : decode cX5_seatSet 43 = .ok (.iconst 1, 1) := by decide +kernel
theorem dX5_seatSet_44 : decode cX5_seatSet 44 = .ok (.iload 5, 2) := by decide +kernel
theorem dX5_seatSet_46 : decode cX5_seatSet 46 = .ok (.ishl, 1) := by decide +kernel
theorem dX5_seatSet_47 : decode cX5_seatSet 47 = .ok (.ixor, 1) := by decide +kernel
theorem dX5_seatSet_48 : decode cX5_seatSet 48 = .ok (.putfield 67, 3) := by decide +kernel
theorem dX5_seatSet_51 : decode cX5_seatSet 51 = .ok (.aload_n 2, 1) := by decide +kernel
theorem dX5_seatSet_52 : decode cX5_seatSet 52 = .ok (.getfield 70, 3) := by decide +kernel
theorem dX5_seatSet_55 : decode cX5_seatSet 55 = .ok (.iload 5, 2) := by decide +kernel
theorem dX5_seatSet_57 : decode cX5_seatSet 57 = .ok (.aload_n 2, 1) := by decide +kernel
theorem dX5_seatSet_58 : decode cX5_seatSet 58 = .ok (.getfield 67, 3) := by decide +kernel
theorem dX5_seatSet_61 : decode cX5_seatSet 61 = .ok (.iload 5, 2) := by decide +kernel
theorem dX5_seatSet_63 : decode cX5_seatSet 63 = .ok (.ishr, 1) := by decide +kernel
theorem dX5_seatSet_64 : decode cX5_seatSet 64 = .ok (.iconst 1, 1) := by decide +kernel
theorem dX5_seatSet_65 : decode cX5_seatSet 65 = .ok (.iand, 1) := by decide +kernel
theorem dX5_seatSet_66 : decode cX5_seatSet 66 = .ok (.iconst 1, 1) := by decide +kernel
theorem dX5_seatSet_67 : decode cX5_seatSet 67 = .ok (.if_icmp .ne 15, 3) := by decide +kernel
theorem dX5_seatSet_70 : decode cX5_seatSet 70 = .ok (.aload_n 0, 1) := by decide +kernel
theorem dX5_seatSet_71 : decode cX5_seatSet 71 = .ok (.getfield 33, 3) := by decide +kernel
theorem dX5_seatSet_74 : decode cX5_seatSet 74 = .ok (.iload 5, 2) := by decide +kernel
theorem dX5_seatSet_76 : decode cX5_seatSet 76 = .ok (.invokevirtual 73, 3) := by decide +kernel
theorem dX5_seatSet_79 : decode cX5_seatSet 79 = .ok (.goto 4, 3) := by decide +kernel
theorem dX5_seatSet_82 : decode cX5_seatSet 82 = .ok (.iconst 0, 1) := by decide +kernel
theorem dX5_seatSet_83 : decode cX5_seatSet 83 = .ok (.iastore, 1) := by decide +kernel
theorem dX5_seatSet_84 : decode cX5_seatSet 84 = .ok (.iinc 4 1, 3) := by decide +kernel
theorem dX5_seatSet_87 : decode cX5_seatSet 87 = .ok (.goto (-79), 3) := by decide +kernel
theorem dX5_seatSet_90 : decode cX5_seatSet 90 = .ok (.aload_n 2, 1) := by decide +kernel
theorem dX5_seatSet_91 : decode cX5_seatSet 91 = .ok (.getfield 67, 3) := by decide +kernel
theorem dX5_seatSet_94 : decode cX5_seatSet 94 = .ok (.ifCond .ne 5, 3) := by decide +kernel
theorem dX5_seatSet_97 : decode cX5_seatSet 97 = .ok (.iconst 0, 1) := by decide +kernel
theorem dX5_seatSet_98 : decode cX5_seatSet 98 = .ok (.ireturn, 1) := by decide +kernel
theorem dX5_seatSet_99 : decode cX5_seatSet 99 = .ok (.aload_n 0, 1) := by decide +kernel
theorem dX5_seatSet_100 : decode cX5_seatSet 100 = .ok (.getfield 45, 3) := by decide +kernel
theorem dX5_seatSet_103 : decode cX5_seatSet 103 = .ok (.aload_n 2, 1) := by decide +kernel
theorem dX5_seatSet_104 : decode cX5_seatSet 104 = .ok (.aload_n 0, 1) := by decide +kernel
theorem dX5_seatSet_105 : decode cX5_seatSet 105 = .ok (.getfield 33, 3) := by decide +kernel
theorem dX5_seatSet_108 : decode cX5_seatSet 108 = .ok (.invokevirtual 78, 3) := by decide +kernel
theorem dX5_seatSet_111 : decode cX5_seatSet 111 = .ok (.pop, 1) := by decide +kernel
theorem dX5_seatSet_112 : decode cX5_seatSet 112 = .ok (.aload_n 2, 1) := by decide +kernel
theorem dX5_seatSet_113 : decode cX5_seatSet 113 = .ok (.aload_n 1, 1) := by decide +kernel
theorem dX5_seatSet_114 : decode cX5_seatSet 114 = .ok (.getfield 84, 3) := by decide +kernel
theorem dX5_seatSet_117 : decode cX5_seatSet 117 = .ok (.invokevirtual 87, 3) := by decide +kernel
theorem dX5_seatSet_120 : decode cX5_seatSet 120 = .ok (.iconst 0, 1) := by decide +kernel
theorem dX5_seatSet_121 : decode cX5_seatSet 121 = .ok (.istore 4, 2) := by decide +kernel
theorem dX5_seatSet_123 : decode cX5_seatSet 123 = .ok (.iload 4, 2) := by decide +kernel
theorem dX5_seatSet_125 : decode cX5_seatSet 125 = .ok (.aload_n 0, 1) := by decide +kernel
theorem dX5_seatSet_126 : decode cX5_seatSet 126 = .ok (.getfield 37, 3) := by decide +kernel
theorem dX5_seatSet_129 : decode cX5_seatSet 129 = .ok (.getfield 90, 3) := by decide +kernel
theorem dX5_seatSet_132 : decode cX5_seatSet 132 = .ok (.if_icmp .ge 46, 3) := by decide +kernel
theorem dX5_seatSet_135 : decode cX5_seatSet 135 = .ok (.aload_n 0, 1) := by decide +kernel
theorem dX5_seatSet_136 : decode cX5_seatSet 136 = .ok (.getfield 41, 3) := by decide +kernel
theorem dX5_seatSet_139 : decode cX5_seatSet 139 = .ok (.aload_n 2, 1) := by decide +kernel
theorem dX5_seatSet_140 : decode cX5_seatSet 140 = .ok (.aload_n 0, 1) := by decide +kernel
theorem dX5_seatSet_141 : decode cX5_seatSet 141 = .ok (.getfield 37, 3) := by decide +kernel
theorem dX5_seatSet_144 : decode cX5_seatSet 144 = .ok (.iload 4, 2) := by decide +kernel
theorem dX5_seatSet_146 : decode cX5_seatSet 146 = .ok (.aload_n 2, 1) := by decide +kernel
theorem dX5_seatSet_147 : decode cX5_seatSet 147 = .ok (.getfield 84, 3) := by decide +kernel
theorem dX5_seatSet_150 : decode cX5_seatSet 150 = .ok (.invokevirtual 95, 3) := by decide +kernel
theorem dX5_seatSet_153 : decode cX5_seatSet 153 = .ok (.invokevirtual 99, 3) := by decide +kernel
theorem dX5_seatSet_156 : decode cX5_seatSet 156 = .ok (.aload_n 0, 1) := by decide +kernel
theorem dX5_seatSet_157 : decode cX5_seatSet 157 = .ok (.getfield 27, 3) := by decide +kernel
theorem dX5_seatSet_160 : decode cX5_seatSet 160 = .ok (.iload_n 3, 1) := by decide +kernel
theorem dX5_seatSet_161 : decode cX5_seatSet 161 = .ok (.aaload, 1) := by decide +kernel
theorem dX5_seatSet_162 : decode cX5_seatSet 162 = .ok (.iload 4, 2) := by decide +kernel
theorem dX5_seatSet_164 : decode cX5_seatSet 164 = .ok (.aload_n 0, 1) := by decide +kernel
theorem dX5_seatSet_165 : decode cX5_seatSet 165 = .ok (.getfield 41, 3) := by decide +kernel
theorem dX5_seatSet_168 : decode cX5_seatSet 168 = .ok (.getfield 105, 3) := by decide +kernel
theorem dX5_seatSet_171 : decode cX5_seatSet 171 = .ok (.iastore, 1) := by decide +kernel
theorem dX5_seatSet_172 : decode cX5_seatSet 172 = .ok (.iinc 4 1, 3) := by decide +kernel
theorem dX5_seatSet_175 : decode cX5_seatSet 175 = .ok (.goto (-52), 3) := by decide +kernel
theorem dX5_seatSet_178 : decode cX5_seatSet 178 = .ok (.iconst 1, 1) := by decide +kernel
theorem dX5_seatSet_179 : decode cX5_seatSet 179 = .ok (.ireturn, 1) := by decide +kernel
theorem dX5_leastOnward_0 : decode cX5_leastOnward 0 = .ok (.iconst (-1), 1) := by decide +kernel
theorem dX5_leastOnward_1 : decode cX5_leastOnward 1 = .ok (.istore_n 2, 1) := by decide +kernel
theorem dX5_leastOnward_2 : decode cX5_leastOnward 2 = .ok (.iconst 0, 1) := by decide +kernel
theorem dX5_leastOnward_3 : decode cX5_leastOnward 3 = .ok (.istore_n 3, 1) := by decide +kernel
theorem dX5_leastOnward_4 : decode cX5_leastOnward 4 = .ok (.iload_n 3, 1) := by decide +kernel
theorem dX5_leastOnward_5 : decode cX5_leastOnward 5 = .ok (.aload_n 0, 1) := by decide +kernel
theorem dX5_leastOnward_6 : decode cX5_leastOnward 6 = .ok (.getfield 15, 3) := by decide +kernel
theorem dX5_leastOnward_9 : decode cX5_leastOnward 9 = .ok (.if_icmp .ge 37, 3) := by decide +kernel
theorem dX5_leastOnward_12 : decode cX5_leastOnward 12 = .ok (.aload_n 0, 1) := by decide +kernel
theorem dX5_leastOnward_13 : decode cX5_leastOnward 13 = .ok (.iload_n 1, 1) := by decide +kernel
theorem dX5_leastOnward_14 : decode cX5_leastOnward 14 = .ok (.iload_n 3, 1) := by decide +kernel
theorem dX5_leastOnward_15 : decode cX5_leastOnward 15 = .ok (.invokevirtual 108, 3) := by decide +kernel
theorem dX5_leastOnward_18 : decode cX5_leastOnward 18 = .ok (.istore 4, 2) := by decide +kernel
theorem dX5_leastOnward_20 : decode cX5_leastOnward 20 = .ok (.iload 4, 2) := by decide +kernel
theorem dX5_leastOnward_22 : decode cX5_leastOnward 22 = .ok (.iconst (-1), 1) := by decide +kernel
theorem dX5_leastOnward_23 : decode cX5_leastOnward 23 = .ok (.if_icmp .eq 17, 3) := by decide +kernel
theorem dX5_leastOnward_26 : decode cX5_leastOnward 26 = .ok (.iload_n 2, 1) := by decide +kernel
theorem dX5_leastOnward_27 : decode cX5_leastOnward 27 = .ok (.iconst (-1), 1) := by decide +kernel
theorem dX5_leastOnward_28 : decode cX5_leastOnward 28 = .ok (.if_icmp .eq 9, 3) := by decide +kernel
theorem dX5_leastOnward_31 : decode cX5_leastOnward 31 = .ok (.iload 4, 2) := by decide +kernel
theorem dX5_leastOnward_33 : decode cX5_leastOnward 33 = .ok (.iload_n 2, 1) := by decide +kernel
theorem dX5_leastOnward_34 : decode cX5_leastOnward 34 = .ok (.if_icmp .ge 6, 3) := by decide +kernel
theorem dX5_leastOnward_37 : decode cX5_leastOnward 37 = .ok (.iload 4, 2) := by decide +kernel
theorem dX5_leastOnward_39 : decode cX5_leastOnward 39 = .ok (.istore_n 2, 1) := by decide +kernel
theorem dX5_leastOnward_40 : decode cX5_leastOnward 40 = .ok (.iinc 3 1, 3) := by decide +kernel
theorem dX5_leastOnward_43 : decode cX5_leastOnward 43 = .ok (.goto (-39), 3) := by decide +kernel
theorem dX5_leastOnward_46 : decode cX5_leastOnward 46 = .ok (.iload_n 2, 1) := by decide +kernel
theorem dX5_leastOnward_47 : decode cX5_leastOnward 47 = .ok (.ireturn, 1) := by decide +kernel
theorem dX5_sumOver_0 : decode cX5_sumOver 0 = .ok (.iload_n 1, 1) := by decide +kernel
theorem dX5_sumOver_1 : decode cX5_sumOver 1 = .ok (.iconst 1, 1) := by decide +kernel
theorem dX5_sumOver_2 : decode cX5_sumOver 2 = .ok (.iload_n 2, 1) := by decide +kernel
theorem dX5_sumOver_3 : decode cX5_sumOver 3 = .ok (.ishl, 1) := by decide +kernel
theorem dX5_sumOver_4 : decode cX5_sumOver 4 = .ok (.ior, 1) := by decide +kernel
theorem dX5_sumOver_5 : decode cX5_sumOver 5 = .ok (.istore_n 3, 1) := by decide +kernel
theorem dX5_sumOver_6 : decode cX5_sumOver 6 = .ok (.iload_n 3, 1) := by decide +kernel
theorem dX5_sumOver_7 : decode cX5_sumOver 7 = .ok (.iload_n 1, 1) := by decide +kernel
theorem dX5_sumOver_8 : decode cX5_sumOver 8 = .ok (.if_icmp .eq 13, 3) := by decide +kernel
theorem dX5_sumOver_11 : decode cX5_sumOver 11 = .ok (.aload_n 0, 1) := by decide +kernel
theorem dX5_sumOver_12 : decode cX5_sumOver 12 = .ok (.getfield 30, 3) := by decide +kernel
theorem dX5_sumOver_15 : decode cX5_sumOver 15 = .ok (.iload_n 3, 1) := by decide +kernel
theorem dX5_sumOver_16 : decode cX5_sumOver 16 = .ok (.iaload, 1) := by decide +kernel
theorem dX5_sumOver_17 : decode cX5_sumOver 17 = .ok (.iconst (-1), 1) := by decide +kernel
theorem dX5_sumOver_18 : decode cX5_sumOver 18 = .ok (.if_icmp .ne 5, 3) := by decide +kernel
theorem dX5_sumOver_21 : decode cX5_sumOver 21 = .ok (.iconst (-1), 1) := by decide +kernel
theorem dX5_sumOver_22 : decode cX5_sumOver 22 = .ok (.ireturn, 1) := by decide +kernel
theorem dX5_sumOver_23 : decode cX5_sumOver 23 = .ok (.iconst 0, 1) := by decide +kernel
theorem dX5_sumOver_24 : decode cX5_sumOver 24 = .ok (.istore 4, 2) := by decide +kernel
theorem dX5_sumOver_26 : decode cX5_sumOver 26 = .ok (.iconst 0, 1) := by decide +kernel
theorem dX5_sumOver_27 : decode cX5_sumOver 27 = .ok (.istore 5, 2) := by decide +kernel
theorem dX5_sumOver_29 : decode cX5_sumOver 29 = .ok (.iload 5, 2) := by decide +kernel
theorem dX5_sumOver_31 : decode cX5_sumOver 31 = .ok (.aload_n 0, 1) := by decide +kernel
theorem dX5_sumOver_32 : decode cX5_sumOver 32 = .ok (.getfield 37, 3) := by decide +kernel
theorem dX5_sumOver_35 : decode cX5_sumOver 35 = .ok (.getfield 90, 3) := by decide +kernel
theorem dX5_sumOver_38 : decode cX5_sumOver 38 = .ok (.if_icmp .ge 38, 3) := by decide +kernel
theorem dX5_sumOver_41 : decode cX5_sumOver 41 = .ok (.iload 4, 2) := by decide +kernel
theorem dX5_sumOver_43 : decode cX5_sumOver 43 = .ok (.aload_n 0, 1) := by decide +kernel
theorem dX5_sumOver_44 : decode cX5_sumOver 44 = .ok (.getfield 27, 3) := by decide +kernel
theorem dX5_sumOver_47 : decode cX5_sumOver 47 = .ok (.iload_n 3, 1) := by decide +kernel
theorem dX5_sumOver_48 : decode cX5_sumOver 48 = .ok (.aaload, 1) := by decide +kernel
theorem dX5_sumOver_49 : decode cX5_sumOver 49 = .ok (.iload 5, 2) := by decide +kernel
theorem dX5_sumOver_51 : decode cX5_sumOver 51 = .ok (.iaload, 1) := by decide +kernel
theorem dX5_sumOver_52 : decode cX5_sumOver 52 = .ok (.aload_n 0, 1) := by decide +kernel
theorem dX5_sumOver_53 : decode cX5_sumOver 53 = .ok (.getfield 27, 3) := by decide +kernel
theorem dX5_sumOver_56 : decode cX5_sumOver 56 = .ok (.iload_n 1, 1) := by decide +kernel
theorem dX5_sumOver_57 : decode cX5_sumOver 57 = .ok (.aaload, 1) := by decide +kernel
theorem dX5_sumOver_58 : decode cX5_sumOver 58 = .ok (.iload 5, 2) := by decide +kernel
theorem dX5_sumOver_60 : decode cX5_sumOver 60 = .ok (.iaload, 1) := by decide +kernel
theorem dX5_sumOver_61 : decode cX5_sumOver 61 = .ok (.iconst (-1), 1) := by decide +kernel
theorem dX5_sumOver_62 : decode cX5_sumOver 62 = .ok (.ixor, 1) := by decide +kernel
theorem dX5_sumOver_63 : decode cX5_sumOver 63 = .ok (.iand, 1) := by decide +kernel
theorem dX5_sumOver_64 : decode cX5_sumOver 64 = .ok (.invokestatic 111, 3) := by decide +kernel
theorem dX5_sumOver_67 : decode cX5_sumOver 67 = .ok (.iadd, 1) := by decide +kernel
theorem dX5_sumOver_68 : decode cX5_sumOver 68 = .ok (.istore 4, 2) := by decide +kernel
theorem dX5_sumOver_70 : decode cX5_sumOver 70 = .ok (.iinc 5 1, 3) := by decide +kernel
theorem dX5_sumOver_73 : decode cX5_sumOver 73 = .ok (.goto (-44), 3) := by decide +kernel
theorem dX5_sumOver_76 : decode cX5_sumOver 76 = .ok (.iload 4, 2) := by decide +kernel
theorem dX5_sumOver_78 : decode cX5_sumOver 78 = .ok (.aload_n 0, 1) := by decide +kernel
theorem dX5_sumOver_79 : decode cX5_sumOver 79 = .ok (.getfield 30, 3) := by decide +kernel
theorem dX5_sumOver_82 : decode cX5_sumOver 82 = .ok (.iload_n 3, 1) := by decide +kernel
theorem dX5_sumOver_83 : decode cX5_sumOver 83 = .ok (.iaload, 1) := by decide +kernel
theorem dX5_sumOver_84 : decode cX5_sumOver 84 = .ok (.iadd, 1) := by decide +kernel
theorem dX5_sumOver_85 : decode cX5_sumOver 85 = .ok (.ireturn, 1) := by decide +kernel
theorem dX5_walk_0 : decode cX5_walk 0 = .ok (.iconst 0, 1) := by decide +kernel
theorem dX5_walk_1 : decode cX5_walk 1 = .ok (.istore_n 2, 1) := by decide +kernel
theorem dX5_walk_2 : decode cX5_walk 2 = .ok (.aload_n 0, 1) := by decide +kernel
theorem dX5_walk_3 : decode cX5_walk 3 = .ok (.iconst 0, 1) := by decide +kernel
theorem dX5_walk_4 : decode cX5_walk 4 = .ok (.putfield 22, 3) := by decide +kernel
theorem dX5_walk_7 : decode cX5_walk 7 = .ok (.iconst 0, 1) := by decide +kernel
theorem dX5_walk_8 : decode cX5_walk 8 = .ok (.istore_n 3, 1) := by decide +kernel
theorem dX5_walk_9 : decode cX5_walk 9 = .ok (.iload_n 3, 1) := by decide +kernel
theorem dX5_walk_10 : decode cX5_walk 10 = .ok (.aload_n 0, 1) := by decide +kernel
theorem dX5_walk_11 : decode cX5_walk 11 = .ok (.getfield 15, 3) := by decide +kernel
theorem dX5_walk_14 : decode cX5_walk 14 = .ok (.if_icmp .ge 49, 3) := by decide +kernel
theorem dX5_walk_17 : decode cX5_walk 17 = .ok (.iload_n 2, 1) := by decide +kernel
theorem dX5_walk_18 : decode cX5_walk 18 = .ok (.iload_n 1, 1) := by decide +kernel
theorem dX5_walk_19 : decode cX5_walk 19 = .ok (.if_icmp .eq 44, 3) := by decide +kernel
theorem dX5_walk_22 : decode cX5_walk 22 = .ok (.aload_n 0, 1) := by decide +kernel
theorem dX5_walk_23 : decode cX5_walk 23 = .ok (.iload_n 2, 1) := by decide +kernel
theorem dX5_walk_24 : decode cX5_walk 24 = .ok (.invokevirtual 116, 3) := by decide +kernel
theorem dX5_walk_27 : decode cX5_walk 27 = .ok (.istore 4, 2) := by decide +kernel
theorem dX5_walk_29 : decode cX5_walk 29 = .ok (.aload_n 0, 1) := by decide +kernel
theorem dX5_walk_30 : decode cX5_walk 30 = .ok (.getfield 19, 3) := by decide +kernel
theorem dX5_walk_33 : decode cX5_walk 33 = .ok (.aload_n 0, 1) := by decide +kernel
theorem dX5_walk_34 : decode cX5_walk 34 = .ok (.getfield 22, 3) := by decide +kernel
theorem dX5_walk_37 : decode cX5_walk 37 = .ok (.iload 4, 2) := by decide +kernel
theorem dX5_walk_39 : decode cX5_walk 39 = .ok (.iastore, 1) := by decide +kernel
theorem dX5_walk_40 : decode cX5_walk 40 = .ok (.aload_n 0, 1) := by decide +kernel
theorem dX5_walk_41 : decode cX5_walk 41 = .ok (.dup, 1) := by decide +kernel
theorem dX5_walk_42 : decode cX5_walk 42 = .ok (.getfield 22, 3) := by decide +kernel
theorem dX5_walk_45 : decode cX5_walk 45 = .ok (.iconst 1, 1) := by decide +kernel
theorem dX5_walk_46 : decode cX5_walk 46 = .ok (.iadd, 1) := by decide +kernel
theorem dX5_walk_47 : decode cX5_walk 47 = .ok (.putfield 22, 3) := by decide +kernel
theorem dX5_walk_50 : decode cX5_walk 50 = .ok (.iload_n 2, 1) := by decide +kernel
theorem dX5_walk_51 : decode cX5_walk 51 = .ok (.iconst 1, 1) := by decide +kernel
theorem dX5_walk_52 : decode cX5_walk 52 = .ok (.iload 4, 2) := by decide +kernel
theorem dX5_walk_54 : decode cX5_walk 54 = .ok (.ishl, 1) := by decide +kernel
theorem dX5_walk_55 : decode cX5_walk 55 = .ok (.ior, 1) := by decide +kernel
theorem dX5_walk_56 : decode cX5_walk 56 = .ok (.istore_n 2, 1) := by decide +kernel
theorem dX5_walk_57 : decode cX5_walk 57 = .ok (.iinc 3 1, 3) := by decide +kernel
theorem dX5_walk_60 : decode cX5_walk 60 = .ok (.goto (-51), 3) := by decide +kernel
theorem dX5_walk_63 : decode cX5_walk 63 = .ok (.return_, 1) := by decide +kernel
theorem dX5_nextOf_0 : decode cX5_nextOf 0 = .ok (.iconst 0, 1) := by decide +kernel
theorem dX5_nextOf_1 : decode cX5_nextOf 1 = .ok (.istore_n 2, 1) := by decide +kernel
theorem dX5_nextOf_2 : decode cX5_nextOf 2 = .ok (.iload_n 2, 1) := by decide +kernel
theorem dX5_nextOf_3 : decode cX5_nextOf 3 = .ok (.aload_n 0, 1) := by decide +kernel
theorem dX5_nextOf_4 : decode cX5_nextOf 4 = .ok (.getfield 15, 3) := by decide +kernel
theorem dX5_nextOf_7 : decode cX5_nextOf 7 = .ok (.if_icmp .ge 36, 3) := by decide +kernel
theorem dX5_nextOf_10 : decode cX5_nextOf 10 = .ok (.aload_n 0, 1) := by decide +kernel
theorem dX5_nextOf_11 : decode cX5_nextOf 11 = .ok (.iload_n 1, 1) := by decide +kernel
theorem dX5_nextOf_12 : decode cX5_nextOf 12 = .ok (.iload_n 2, 1) := by decide +kernel
theorem dX5_nextOf_13 : decode cX5_nextOf 13 = .ok (.invokevirtual 108, 3) := by decide +kernel
theorem dX5_nextOf_16 : decode cX5_nextOf 16 = .ok (.aload_n 0, 1) := by decide +kernel
theorem dX5_nextOf_17 : decode cX5_nextOf 17 = .ok (.getfield 30, 3) := by decide +kernel
theorem dX5_nextOf_20 : decode cX5_nextOf 20 = .ok (.iload_n 1, 1) := by decide +kernel
theorem dX5_nextOf_21 : decode cX5_nextOf 21 = .ok (.iaload, 1) := by decide +kernel
theorem dX5_nextOf_22 : decode cX5_nextOf 22 = .ok (.if_icmp .ne 15, 3) := by decide +kernel
theorem dX5_nextOf_25 : decode cX5_nextOf 25 = .ok (.aload_n 0, 1) := by decide +kernel
theorem dX5_nextOf_26 : decode cX5_nextOf 26 = .ok (.getfield 30, 3) := by decide +kernel
theorem dX5_nextOf_29 : decode cX5_nextOf 29 = .ok (.iload_n 1, 1) := by decide +kernel
theorem dX5_nextOf_30 : decode cX5_nextOf 30 = .ok (.iaload, 1) := by decide +kernel
theorem dX5_nextOf_31 : decode cX5_nextOf 31 = .ok (.iconst (-1), 1) := by decide +kernel
theorem dX5_nextOf_32 : decode cX5_nextOf 32 = .ok (.if_icmp .eq 5, 3) := by decide +kernel
theorem dX5_nextOf_35 : decode cX5_nextOf 35 = .ok (.iload_n 2, 1) := by decide +kernel
theorem dX5_nextOf_36 : decode cX5_nextOf 36 = .ok (.ireturn, 1) := by decide +kernel
theorem dX5_nextOf_37 : decode cX5_nextOf 37 = .ok (.iinc 2 1, 3) := by decide +kernel
theorem dX5_nextOf_40 : decode cX5_nextOf 40 = .ok (.goto (-38), 3) := by decide +kernel
theorem dX5_nextOf_43 : decode cX5_nextOf 43 = .ok (.iconst 0, 1) := by decide +kernel
theorem dX5_nextOf_44 : decode cX5_nextOf 44 = .ok (.ireturn, 1) := by decide +kernel
theorem dX6_spread_0 : decode cX6_spread 0 = .ok (.aload_n 0, 1) := by decide +kernel
theorem dX6_spread_1 : decode cX6_spread 1 = .ok (.dup, 1) := by decide +kernel
theorem dX6_spread_2 : decode cX6_spread 2 = .ok (.getfield 38, 3) := by decide +kernel
theorem dX6_spread_5 : decode cX6_spread 5 = .ok (.iconst 1, 1) := by decide +kernel
theorem dX6_spread_6 : decode cX6_spread 6 = .ok (.iadd, 1) := by decide +kernel
theorem dX6_spread_7 : decode cX6_spread 7 = .ok (.putfield 38, 3) := by decide +kernel
theorem dX6_spread_10 : decode cX6_spread 10 = .ok (.aload_n 0, 1) := by decide +kernel
theorem dX6_spread_11 : decode cX6_spread 11 = .ok (.getfield 28, 3) := by decide +kernel
theorem dX6_spread_14 : decode cX6_spread 14 = .ok (.iload_n 2, 1) := by decide +kernel
theorem dX6_spread_15 : decode cX6_spread 15 = .ok (.dup2, 1) := by decide +kernel
theorem dX6_spread_16 : decode cX6_spread 16 = .ok (.iaload, 1) := by decide +kernel
theorem dX6_spread_17 : decode cX6_spread 17 = .ok (.iconst 1, 1) := by decide +kernel
theorem dX6_spread_18 : decode cX6_spread 18 = .ok (.iadd, 1) := by decide +kernel
theorem dX6_spread_19 : decode cX6_spread 19 = .ok (.iastore, 1) := by decide +kernel
theorem dX6_spread_20 : decode cX6_spread 20 = .ok (.aload_n 0, 1) := by decide +kernel
theorem dX6_spread_21 : decode cX6_spread 21 = .ok (.getfield 50, 3) := by decide +kernel
theorem dX6_spread_24 : decode cX6_spread 24 = .ok (.aload_n 1, 1) := by decide +kernel
theorem dX6_spread_25 : decode cX6_spread 25 = .ok (.aload_n 0, 1) := by decide +kernel
theorem dX6_spread_26 : decode cX6_spread 26 = .ok (.getfield 46, 3) := by decide +kernel
theorem dX6_spread_29 : decode cX6_spread 29 = .ok (.iload_n 2, 1) := by decide +kernel
theorem dX6_spread_30 : decode cX6_spread 30 = .ok (.aload_n 1, 1) := by decide +kernel
theorem dX6_spread_31 : decode cX6_spread 31 = .ok (.getfield 54, 3) := by decide +kernel
theorem dX6_spread_34 : decode cX6_spread 34 = .ok (.invokevirtual 59, 3) := by decide +kernel
theorem dX6_spread_37 : decode cX6_spread 37 = .ok (.invokevirtual 65, 3) := by decide +kernel
theorem dX6_spread_40 : decode cX6_spread 40 = .ok (.iconst 0, 1) := by decide +kernel
theorem dX6_spread_41 : decode cX6_spread 41 = .ok (.istore_n 3, 1) := by decide +kernel
theorem dX6_spread_42 : decode cX6_spread 42 = .ok (.iconst 0, 1) := by decide +kernel
theorem dX6_spread_43 : decode cX6_spread 43 = .ok (.istore 4, 2) := by decide +kernel
theorem dX6_spread_45 : decode cX6_spread 45 = .ok (.iload 4, 2) := by decide +kernel
theorem dX6_spread_47 : decode cX6_spread 47 = .ok (.aload_n 0, 1) := by decide +kernel
theorem dX6_spread_48 : decode cX6_spread 48 = .ok (.getfield 50, 3) := by decide +kernel
theorem dX6_spread_51 : decode cX6_spread 51 = .ok (.getfield 71, 3) := by decide +kernel
theorem dX6_spread_54 : decode cX6_spread 54 = .ok (.if_icmp .ge 30, 3) := by decide +kernel
theorem dX6_spread_57 : decode cX6_spread 57 = .ok (.aload_n 0, 1) := by decide +kernel
theorem dX6_spread_58 : decode cX6_spread 58 = .ok (.aload_n 0, 1) := by decide +kernel
theorem dX6_spread_59 : decode cX6_spread 59 = .ok (.getfield 50, 3) := by decide +kernel
theorem dX6_spread_62 : decode cX6_spread 62 = .ok (.getfield 74, 3) := by decide +kernel
theorem dX6_spread_65 : decode cX6_spread 65 = .ok (.iload 4, 2) := by decide +kernel
theorem dX6_spread_67 : decode cX6_spread 67 = .ok (.iaload, 1) := by decide +kernel
theorem dX6_spread_68 : decode cX6_spread 68 = .ok (.iload_n 2, 1) := by decide +kernel
theorem dX6_spread_69 : decode cX6_spread 69 = .ok (.invokevirtual 77, 3) := by decide +kernel
theorem dX6_spread_72 : decode cX6_spread 72 = .ok (.ifCond .eq 6, 3) := by decide +kernel
theorem dX6_spread_75 : decode cX6_spread 75 = .ok (.iinc 3 1, 3) := by decide +kernel
theorem dX6_spread_78 : decode cX6_spread 78 = .ok (.iinc 4 1, 3) := by decide +kernel
theorem dX6_spread_81 : decode cX6_spread 81 = .ok (.goto (-36), 3) := by decide +kernel
theorem dX6_spread_84 : decode cX6_spread 84 = .ok (.iload_n 3, 1) := by decide +kernel
theorem dX6_spread_85 : decode cX6_spread 85 = .ok (.ireturn, 1) := by decide +kernel
theorem dX6_reaches_0 : decode cX6_reaches 0 = .ok (.aload_n 0, 1) := by decide +kernel
theorem dX6_reaches_1 : decode cX6_reaches 1 = .ok (.getfield 42, 3) := by decide +kernel
theorem dX6_reaches_4 : decode cX6_reaches 4 = .ok (.getfield 81, 3) := by decide +kernel
theorem dX6_reaches_7 : decode cX6_reaches 7 = .ok (.iload_n 1, 1) := by decide +kernel
theorem dX6_reaches_8 : decode cX6_reaches 8 = .ok (.baload, 1) := by decide +kernel
theorem dX6_reaches_9 : decode cX6_reaches 9 = .ok (.ifCond .eq 5, 3) := by decide +kernel
theorem dX6_reaches_12 : decode cX6_reaches 12 = .ok (.iconst 0, 1) := by decide +kernel
theorem dX6_reaches_13 : decode cX6_reaches 13 = .ok (.ireturn, 1) := by decide +kernel
theorem dX6_reaches_14 : decode cX6_reaches 14 = .ok (.aload_n 0, 1) := by decide +kernel
theorem dX6_reaches_15 : decode cX6_reaches 15 = .ok (.getfield 42, 3) := by decide +kernel
theorem dX6_reaches_18 : decode cX6_reaches 18 = .ok (.getfield 87, 3) := by decide +kernel
theorem dX6_reaches_21 : decode cX6_reaches 21 = .ok (.iload_n 1, 1) := by decide +kernel
theorem dX6_reaches_22 : decode cX6_reaches 22 = .ok (.iaload, 1) := by decide +kernel
theorem dX6_reaches_23 : decode cX6_reaches 23 = .ok (.iconst 4, 1) := by decide +kernel
theorem dX6_reaches_24 : decode cX6_reaches 24 = .ok (.if_icmp .ne 10, 3) := by decide +kernel
theorem dX6_reaches_27 : decode cX6_reaches 27 = .ok (.aload_n 0, 1) := by decide +kernel
theorem dX6_reaches_28 : decode cX6_reaches 28 = .ok (.iload_n 1, 1) := by decide +kernel
theorem dX6_reaches_29 : decode cX6_reaches 29 = .ok (.iload_n 2, 1) := by decide +kernel
theorem dX6_reaches_30 : decode cX6_reaches 30 = .ok (.invokevirtual 90, 3) := by decide +kernel
theorem dX6_reaches_33 : decode cX6_reaches 33 = .ok (.ireturn, 1) := by decide +kernel
theorem dX6_reaches_34 : decode cX6_reaches 34 = .ok (.aload_n 0, 1) := by decide +kernel
theorem dX6_reaches_35 : decode cX6_reaches 35 = .ok (.iload_n 1, 1) := by decide +kernel
theorem dX6_reaches_36 : decode cX6_reaches 36 = .ok (.iload_n 2, 1) := by decide +kernel
theorem dX6_reaches_37 : decode cX6_reaches 37 = .ok (.aload_n 0, 1) := by decide +kernel
theorem dX6_reaches_38 : decode cX6_reaches 38 = .ok (.getfield 28, 3) := by decide +kernel
theorem dX6_reaches_41 : decode cX6_reaches 41 = .ok (.iload_n 2, 1) := by decide +kernel
theorem dX6_reaches_42 : decode cX6_reaches 42 = .ok (.iaload, 1) := by decide +kernel
theorem dX6_reaches_43 : decode cX6_reaches 43 = .ok (.invokevirtual 93, 3) := by decide +kernel
theorem dX6_reaches_46 : decode cX6_reaches 46 = .ok (.ireturn, 1) := by decide +kernel
theorem dX6_receives_0 : decode cX6_receives 0 = .ok (.aload_n 0, 1) := by decide +kernel
theorem dX6_receives_1 : decode cX6_receives 1 = .ok (.iload_n 1, 1) := by decide +kernel
theorem dX6_receives_2 : decode cX6_receives 2 = .ok (.iload_n 2, 1) := by decide +kernel
theorem dX6_receives_3 : decode cX6_receives 3 = .ok (.invokevirtual 97, 3) := by decide +kernel
theorem dX6_receives_6 : decode cX6_receives 6 = .ok (.ifCond .eq 17, 3) := by decide +kernel
theorem dX6_receives_9 : decode cX6_receives 9 = .ok (.aload_n 0, 1) := by decide +kernel
theorem dX6_receives_10 : decode cX6_receives 10 = .ok (.iload_n 1, 1) := by decide +kernel
theorem dX6_receives_11 : decode cX6_receives 11 = .ok (.iload_n 2, 1) := by decide +kernel
theorem dX6_receives_12 : decode cX6_receives 12 = .ok (.iload_n 3, 1) := by decide +kernel
theorem dX6_receives_13 : decode cX6_receives 13 = .ok (.invokevirtual 100, 3) := by decide +kernel
theorem dX6_receives_16 : decode cX6_receives 16 = .ok (.ifCond .eq 7, 3) := by decide +kernel
theorem dX6_receives_19 : decode cX6_receives 19 = .ok (.iconst 1, 1) := by decide +kernel
theorem dX6_receives_20 : decode cX6_receives 20 = .ok (.goto 4, 3) := by decide +kernel
theorem dX6_receives_23 : decode cX6_receives 23 = .ok (.iconst 0, 1) := by decide +kernel
theorem dX6_receives_24 : decode cX6_receives 24 = .ok (.ireturn, 1) := by decide +kernel
theorem dX6_takesGreater_0 : decode cX6_takesGreater 0 = .ok (.iload_n 3, 1) := by decide +kernel
theorem dX6_takesGreater_1 : decode cX6_takesGreater 1 = .ok (.aload_n 0, 1) := by decide +kernel
theorem dX6_takesGreater_2 : decode cX6_takesGreater 2 = .ok (.getfield 11, 3) := by decide +kernel
theorem dX6_takesGreater_5 : decode cX6_takesGreater 5 = .ok (.iload_n 1, 1) := by decide +kernel
theorem dX6_takesGreater_6 : decode cX6_takesGreater 6 = .ok (.aaload, 1) := by decide +kernel
theorem dX6_takesGreater_7 : decode cX6_takesGreater 7 = .ok (.iload_n 2, 1) := by decide +kernel
theorem dX6_takesGreater_8 : decode cX6_takesGreater 8 = .ok (.iaload, 1) := by decide +kernel
theorem dX6_takesGreater_9 : decode cX6_takesGreater 9 = .ok (.if_icmp .gt 5, 3) := by decide +kernel
theorem dX6_takesGreater_12 : decode cX6_takesGreater 12 = .ok (.iconst 0, 1) := by decide +kernel
theorem dX6_takesGreater_13 : decode cX6_takesGreater 13 = .ok (.ireturn, 1) := by decide +kernel
theorem dX6_takesGreater_14 : decode cX6_takesGreater 14 = .ok (.aload_n 0, 1) := by decide +kernel
theorem dX6_takesGreater_15 : decode cX6_takesGreater 15 = .ok (.getfield 11, 3) := by decide +kernel
theorem dX6_takesGreater_18 : decode cX6_takesGreater 18 = .ok (.iload_n 1, 1) := by decide +kernel
theorem dX6_takesGreater_19 : decode cX6_takesGreater 19 = .ok (.aaload, 1) := by decide +kernel
theorem dX6_takesGreater_20 : decode cX6_takesGreater 20 = .ok (.iload_n 2, 1) := by decide +kernel
theorem dX6_takesGreater_21 : decode cX6_takesGreater 21 = .ok (.iload_n 3, 1) := by decide +kernel
theorem dX6_takesGreater_22 : decode cX6_takesGreater 22 = .ok (.iastore, 1) := by decide +kernel
theorem dX6_takesGreater_23 : decode cX6_takesGreater 23 = .ok (.iconst 1, 1) := by decide +kernel
theorem dX6_takesGreater_24 : decode cX6_takesGreater 24 = .ok (.ireturn, 1) := by decide +kernel
theorem dX6_hasRoom_0 : decode cX6_hasRoom 0 = .ok (.aload_n 0, 1) := by decide +kernel
theorem dX6_hasRoom_1 : decode cX6_hasRoom 1 = .ok (.getfield 42, 3) := by decide +kernel
theorem dX6_hasRoom_4 : decode cX6_hasRoom 4 = .ok (.getfield 87, 3) := by decide +kernel
theorem dX6_hasRoom_7 : decode cX6_hasRoom 7 = .ok (.iload_n 1, 1) := by decide +kernel
theorem dX6_hasRoom_8 : decode cX6_hasRoom 8 = .ok (.iaload, 1) := by decide +kernel
theorem dX6_hasRoom_9 : decode cX6_hasRoom 9 = .ok (.bipush 6, 2) := by decide +kernel
theorem dX6_hasRoom_11 : decode cX6_hasRoom 11 = .ok (.if_icmp .ne 14, 3) := by decide +kernel
theorem dX6_hasRoom_14 : decode cX6_hasRoom 14 = .ok (.aload_n 0, 1) := by decide +kernel
theorem dX6_hasRoom_15 : decode cX6_hasRoom 15 = .ok (.getfield 11, 3) := by decide +kernel
theorem dX6_hasRoom_18 : decode cX6_hasRoom 18 = .ok (.iload_n 1, 1) := by decide +kernel
theorem dX6_hasRoom_19 : decode cX6_hasRoom 19 = .ok (.aaload, 1) := by decide +kernel
theorem dX6_hasRoom_20 : decode cX6_hasRoom 20 = .ok (.iload_n 2, 1) := by decide +kernel
theorem dX6_hasRoom_21 : decode cX6_hasRoom 21 = .ok (.iaload, 1) := by decide +kernel
theorem dX6_hasRoom_22 : decode cX6_hasRoom 22 = .ok (.ifCond .le 5, 3) := by decide +kernel
theorem dX6_hasRoom_25 : decode cX6_hasRoom 25 = .ok (.iconst 1, 1) := by decide +kernel
theorem dX6_hasRoom_26 : decode cX6_hasRoom 26 = .ok (.ireturn, 1) := by decide +kernel
theorem dX6_hasRoom_27 : decode cX6_hasRoom 27 = .ok (.aload_n 0, 1) := by decide +kernel
theorem dX6_hasRoom_28 : decode cX6_hasRoom 28 = .ok (.iload_n 1, 1) := by decide +kernel
theorem dX6_hasRoom_29 : decode cX6_hasRoom 29 = .ok (.invokevirtual 103, 3) := by decide +kernel
theorem dX6_hasRoom_32 : decode cX6_hasRoom 32 = .ok (.bipush 8, 2) := by decide +kernel
theorem dX6_hasRoom_34 : decode cX6_hasRoom 34 = .ok (.if_icmp .ge 7, 3) := by decide +kernel
theorem dX6_hasRoom_37 : decode cX6_hasRoom 37 = .ok (.iconst 1, 1) := by decide +kernel
theorem dX6_hasRoom_38 : decode cX6_hasRoom 38 = .ok (.goto 4, 3) := by decide +kernel
theorem dX6_hasRoom_41 : decode cX6_hasRoom 41 = .ok (.iconst 0, 1) := by decide +kernel
theorem dX6_hasRoom_42 : decode cX6_hasRoom 42 = .ok (.ireturn, 1) := by decide +kernel
theorem dX6_isKeptFor_0 : decode cX6_isKeptFor 0 = .ok (.iconst 0, 1) := by decide +kernel
theorem dX6_isKeptFor_1 : decode cX6_isKeptFor 1 = .ok (.istore_n 3, 1) := by decide +kernel
theorem dX6_isKeptFor_2 : decode cX6_isKeptFor 2 = .ok (.iload_n 3, 1) := by decide +kernel
theorem dX6_isKeptFor_3 : decode cX6_isKeptFor 3 = .ok (.aload_n 0, 1) := by decide +kernel
theorem dX6_isKeptFor_4 : decode cX6_isKeptFor 4 = .ok (.getfield 50, 3) := by decide +kernel
theorem dX6_isKeptFor_7 : decode cX6_isKeptFor 7 = .ok (.getfield 107, 3) := by decide +kernel
theorem dX6_isKeptFor_10 : decode cX6_isKeptFor 10 = .ok (.if_icmp .ge 102, 3) := by decide +kernel
theorem dX6_isKeptFor_13 : decode cX6_isKeptFor 13 = .ok (.aload_n 0, 1) := by decide +kernel
theorem dX6_isKeptFor_14 : decode cX6_isKeptFor 14 = .ok (.getfield 50, 3) := by decide +kernel
theorem dX6_isKeptFor_17 : decode cX6_isKeptFor 17 = .ok (.getfield 110, 3) := by decide +kernel
theorem dX6_isKeptFor_20 : decode cX6_isKeptFor 20 = .ok (.iload_n 3, 1) := by decide +kernel
theorem dX6_isKeptFor_21 : decode cX6_isKeptFor 21 = .ok (.iaload, 1) := by decide +kernel
theorem dX6_isKeptFor_22 : decode cX6_isKeptFor 22 = .ok (.istore 4, 2) := by decide +kernel
theorem dX6_isKeptFor_24 : decode cX6_isKeptFor 24 = .ok (.aload_n 0, 1) := by decide +kernel
theorem dX6_isKeptFor_25 : decode cX6_isKeptFor 25 = .ok (.getfield 50, 3) := by decide +kernel
theorem dX6_isKeptFor_28 : decode cX6_isKeptFor 28 = .ok (.iload 4, 2) := by decide +kernel
theorem dX6_isKeptFor_30 : decode cX6_isKeptFor 30 = .ok (.invokevirtual 113, 3) := by decide +kernel
theorem dX6_isKeptFor_33 : decode cX6_isKeptFor 33 = .ok (.ifCond .ne 73, 3) := by decide +kernel
theorem dX6_isKeptFor_36 : decode cX6_isKeptFor 36 = .ok (.aload_n 0, 1) := by decide +kernel
theorem dX6_isKeptFor_37 : decode cX6_isKeptFor 37 = .ok (.getfield 42, 3) := by decide +kernel
theorem dX6_isKeptFor_40 : decode cX6_isKeptFor 40 = .ok (.iload 4, 2) := by decide +kernel
theorem dX6_isKeptFor_42 : decode cX6_isKeptFor 42 = .ok (.invokevirtual 117, 3) := by decide +kernel
theorem dX6_isKeptFor_45 : decode cX6_isKeptFor 45 = .ok (.ifCond .ne 6, 3) := by decide +kernel
theorem dX6_isKeptFor_48 : decode cX6_isKeptFor 48 = .ok (.goto 58, 3) := by decide +kernel
theorem dX6_isKeptFor_51 : decode cX6_isKeptFor 51 = .ok (.aload_n 0, 1) := by decide +kernel
theorem dX6_isKeptFor_52 : decode cX6_isKeptFor 52 = .ok (.getfield 16, 3) := by decide +kernel
theorem dX6_isKeptFor_55 : decode cX6_isKeptFor 55 = .ok (.iload 4, 2) := by decide +kernel
theorem dX6_isKeptFor_57 : decode cX6_isKeptFor 57 = .ok (.aaload, 1) := by decide +kernel
theorem dX6_isKeptFor_58 : decode cX6_isKeptFor 58 = .ok (.iload_n 2, 1) := by decide +kernel
theorem dX6_isKeptFor_59 : decode cX6_isKeptFor 59 = .ok (.iaload, 1) := by decide +kernel
theorem dX6_isKeptFor_60 : decode cX6_isKeptFor 60 = .ok (.ifCond .le 19, 3) := by decide +kernel
theorem dX6_isKeptFor_63 : decode cX6_isKeptFor 63 = .ok (.aload_n 0, 1) := by decide +kernel
theorem dX6_isKeptFor_64 : decode cX6_isKeptFor 64 = .ok (.getfield 19, 3) := by decide +kernel
theorem dX6_isKeptFor_67 : decode cX6_isKeptFor 67 = .ok (.iload 4, 2) := by decide +kernel
theorem dX6_isKeptFor_69 : decode cX6_isKeptFor 69 = .ok (.aaload, 1) := by decide +kernel
theorem dX6_isKeptFor_70 : decode cX6_isKeptFor 70 = .ok (.iload_n 2, 1) := by decide +kernel
theorem dX6_isKeptFor_71 : decode cX6_isKeptFor 71 = .ok (.iaload, 1) := by decide +kernel
theorem dX6_isKeptFor_72 : decode cX6_isKeptFor 72 = .ok (.iload_n 1, 1) := by decide +kernel
theorem dX6_isKeptFor_73 : decode cX6_isKeptFor 73 = .ok (.if_icmp .eq 6, 3) := by decide +kernel
theorem dX6_isKeptFor_76 : decode cX6_isKeptFor 76 = .ok (.goto 30, 3) := by decide +kernel
theorem dX6_isKeptFor_79 : decode cX6_isKeptFor 79 = .ok (.aload_n 0, 1) := by decide +kernel
theorem dX6_isKeptFor_80 : decode cX6_isKeptFor 80 = .ok (.getfield 16, 3) := by decide +kernel
theorem dX6_isKeptFor_83 : decode cX6_isKeptFor 83 = .ok (.iload 4, 2) := by decide +kernel
theorem dX6_isKeptFor_85 : decode cX6_isKeptFor 85 = .ok (.aaload, 1) := by decide +kernel
theorem dX6_isKeptFor_86 : decode cX6_isKeptFor 86 = .ok (.iload_n 2, 1) := by decide +kernel
theorem dX6_isKeptFor_87 : decode cX6_isKeptFor 87 = .ok (.aload_n 0, 1) := by decide +kernel
theorem dX6_isKeptFor_88 : decode cX6_isKeptFor 88 = .ok (.getfield 28, 3) := by decide +kernel
theorem dX6_isKeptFor_91 : decode cX6_isKeptFor 91 = .ok (.iload_n 2, 1) := by decide +kernel
theorem dX6_isKeptFor_92 : decode cX6_isKeptFor 92 = .ok (.iaload, 1) := by decide +kernel
theorem dX6_isKeptFor_93 : decode cX6_isKeptFor 93 = .ok (.iastore, 1) := by decide +kernel
theorem dX6_isKeptFor_94 : decode cX6_isKeptFor 94 = .ok (.aload_n 0, 1) := by decide +kernel
theorem dX6_isKeptFor_95 : decode cX6_isKeptFor 95 = .ok (.getfield 19, 3) := by decide +kernel
theorem dX6_isKeptFor_98 : decode cX6_isKeptFor 98 = .ok (.iload 4, 2) := by decide +kernel
theorem dX6_isKeptFor_100 : decode cX6_isKeptFor 100 = .ok (.aaload, 1) := by decide +kernel
theorem dX6_isKeptFor_101 : decode cX6_isKeptFor 101 = .ok (.iload_n 2, 1) := by decide +kernel
theorem dX6_isKeptFor_102 : decode cX6_isKeptFor 102 = .ok (.iload_n 1, 1) := by decide +kernel
theorem dX6_isKeptFor_103 : decode cX6_isKeptFor 103 = .ok (.iastore, 1) := by decide +kernel
theorem dX6_isKeptFor_104 : decode cX6_isKeptFor 104 = .ok (.iconst 1, 1) := by decide +kernel
theorem dX6_isKeptFor_105 : decode cX6_isKeptFor 105 = .ok (.ireturn, 1) := by decide +kernel
theorem dX6_isKeptFor_106 : decode cX6_isKeptFor 106 = .ok (.iinc 3 1, 3) := by decide +kernel
theorem dX6_isKeptFor_109 : decode cX6_isKeptFor 109 = .ok (.goto (-107), 3) := by decide +kernel
theorem dX6_isKeptFor_112 : decode cX6_isKeptFor 112 = .ok (.iconst 0, 1) := by decide +kernel
theorem dX6_isKeptFor_113 : decode cX6_isKeptFor 113 = .ok (.ireturn, 1) := by decide +kernel
theorem dX6_handBack_0 : decode cX6_handBack 0 = .ok (.iconst 0, 1) := by decide +kernel
theorem dX6_handBack_1 : decode cX6_handBack 1 = .ok (.istore_n 2, 1) := by decide +kernel
theorem dX6_handBack_2 : decode cX6_handBack 2 = .ok (.iload_n 2, 1) := by decide +kernel
theorem dX6_handBack_3 : decode cX6_handBack 3 = .ok (.aload_n 0, 1) := by decide +kernel
theorem dX6_handBack_4 : decode cX6_handBack 4 = .ok (.getfield 42, 3) := by decide +kernel
theorem dX6_handBack_7 : decode cX6_handBack 7 = .ok (.getfield 120, 3) := by decide +kernel
theorem dX6_handBack_10 : decode cX6_handBack 10 = .ok (.if_icmp .ge 78, 3) := by decide +kernel
theorem dX6_handBack_13 : decode cX6_handBack 13 = .ok (.iconst 0, 1) := by decide +kernel
theorem dX6_handBack_14 : decode cX6_handBack 14 = .ok (.istore_n 3, 1) := by decide +kernel
theorem dX6_handBack_15 : decode cX6_handBack 15 = .ok (.iload_n 3, 1) := by decide +kernel
theorem dX6_handBack_16 : decode cX6_handBack 16 = .ok (.aload_n 0, 1) := by decide +kernel
theorem dX6_handBack_17 : decode cX6_handBack 17 = .ok (.getfield 46, 3) := by decide +kernel
theorem dX6_handBack_20 : decode cX6_handBack 20 = .ok (.getfield 123, 3) := by decide +kernel
theorem dX6_handBack_23 : decode cX6_handBack 23 = .ok (.if_icmp .ge 59, 3) := by decide +kernel
theorem dX6_handBack_26 : decode cX6_handBack 26 = .ok (.aload_n 0, 1) := by decide +kernel
theorem dX6_handBack_27 : decode cX6_handBack 27 = .ok (.getfield 16, 3) := by decide +kernel
theorem dX6_handBack_30 : decode cX6_handBack 30 = .ok (.iload_n 2, 1) := by decide +kernel
theorem dX6_handBack_31 : decode cX6_handBack 31 = .ok (.aaload, 1) := by decide +kernel
theorem dX6_handBack_32 : decode cX6_handBack 32 = .ok (.iload_n 3, 1) := by decide +kernel
theorem dX6_handBack_33 : decode cX6_handBack 33 = .ok (.iaload, 1) := by decide +kernel
theorem dX6_handBack_34 : decode cX6_handBack 34 = .ok (.ifCond .eq 42, 3) := by decide +kernel
theorem dX6_handBack_37 : decode cX6_handBack 37 = .ok (.aload_n 0, 1) := by decide +kernel
theorem dX6_handBack_38 : decode cX6_handBack 38 = .ok (.getfield 19, 3) := by decide +kernel
theorem dX6_handBack_41 : decode cX6_handBack 41 = .ok (.iload_n 2, 1) := by decide +kernel
theorem dX6_handBack_42 : decode cX6_handBack 42 = .ok (.aaload, 1) := by decide +kernel
theorem dX6_handBack_43 : decode cX6_handBack 43 = .ok (.iload_n 3, 1) := by decide +kernel
theorem dX6_handBack_44 : decode cX6_handBack 44 = .ok (.iaload, 1) := by decide +kernel
theorem dX6_handBack_45 : decode cX6_handBack 45 = .ok (.iload_n 1, 1) := by decide +kernel
theorem dX6_handBack_46 : decode cX6_handBack 46 = .ok (.if_icmp .eq 6, 3) := by decide +kernel
theorem dX6_handBack_49 : decode cX6_handBack 49 = .ok (.goto 27, 3) := by decide +kernel
theorem dX6_handBack_52 : decode cX6_handBack 52 = .ok (.aload_n 0, 1) := by decide +kernel
theorem dX6_handBack_53 : decode cX6_handBack 53 = .ok (.iload_n 1, 1) := by decide +kernel
theorem dX6_handBack_54 : decode cX6_handBack 54 = .ok (.iload_n 3, 1) := by decide +kernel
theorem dX6_handBack_55 : decode cX6_handBack 55 = .ok (.aload_n 0, 1) := by decide +kernel
theorem dX6_handBack_56 : decode cX6_handBack 56 = .ok (.getfield 16, 3) := by decide +kernel
theorem dX6_handBack_59 : decode cX6_handBack 59 = .ok (.iload_n 2, 1) := by decide +kernel
theorem dX6_handBack_60 : decode cX6_handBack 60 = .ok (.aaload, 1) := by decide +kernel
theorem dX6_handBack_61 : decode cX6_handBack 61 = .ok (.iload_n 3, 1) := by decide +kernel
theorem dX6_handBack_62 : decode cX6_handBack 62 = .ok (.iaload, 1) := by decide +kernel
theorem dX6_handBack_63 : decode cX6_handBack 63 = .ok (.invokevirtual 100, 3) := by decide +kernel
theorem dX6_handBack_66 : decode cX6_handBack 66 = .ok (.pop, 1) := by decide +kernel
theorem dX6_handBack_67 : decode cX6_handBack 67 = .ok (.aload_n 0, 1) := by decide +kernel
theorem dX6_handBack_68 : decode cX6_handBack 68 = .ok (.getfield 16, 3) := by decide +kernel
theorem dX6_handBack_71 : decode cX6_handBack 71 = .ok (.iload_n 2, 1) := by decide +kernel
theorem dX6_handBack_72 : decode cX6_handBack 72 = .ok (.aaload, 1) := by decide +kernel
theorem dX6_handBack_73 : decode cX6_handBack 73 = .ok (.iload_n 3, 1) := by decide +kernel
theorem dX6_handBack_74 : decode cX6_handBack 74 = .ok (.iconst 0, 1) := by decide +kernel
theorem dX6_handBack_75 : decode cX6_handBack 75 = .ok (.iastore, 1) := by decide +kernel
theorem dX6_handBack_76 : decode cX6_handBack 76 = .ok (.iinc 3 1, 3) := by decide +kernel
theorem dX6_handBack_79 : decode cX6_handBack 79 = .ok (.goto (-64), 3) := by decide +kernel
theorem dX6_handBack_82 : decode cX6_handBack 82 = .ok (.iinc 2 1, 3) := by decide +kernel
theorem dX6_handBack_85 : decode cX6_handBack 85 = .ok (.goto (-83), 3) := by decide +kernel
theorem dX6_handBack_88 : decode cX6_handBack 88 = .ok (.return_, 1) := by decide +kernel
theorem dX6_empty_0 : decode cX6_empty 0 = .ok (.aload_n 0, 1) := by decide +kernel
theorem dX6_empty_1 : decode cX6_empty 1 = .ok (.getfield 11, 3) := by decide +kernel
theorem dX6_empty_4 : decode cX6_empty 4 = .ok (.iload_n 1, 1) := by decide +kernel
theorem dX6_empty_5 : decode cX6_empty 5 = .ok (.aaload, 1) := by decide +kernel
theorem dX6_empty_6 : decode cX6_empty 6 = .ok (.iconst 0, 1) := by decide +kernel
theorem dX6_empty_7 : decode cX6_empty 7 = .ok (.invokestatic 124, 3) := by decide +kernel
theorem dX6_empty_10 : decode cX6_empty 10 = .ok (.aload_n 0, 1) := by decide +kernel
theorem dX6_empty_11 : decode cX6_empty 11 = .ok (.getfield 16, 3) := by decide +kernel
theorem dX6_empty_14 : decode cX6_empty 14 = .ok (.iload_n 1, 1) := by decide +kernel
theorem dX6_empty_15 : decode cX6_empty 15 = .ok (.aaload, 1) := by decide +kernel
theorem dX6_empty_16 : decode cX6_empty 16 = .ok (.iconst 0, 1) := by decide +kernel
theorem dX6_empty_17 : decode cX6_empty 17 = .ok (.invokestatic 124, 3) := by decide +kernel
theorem dX6_empty_20 : decode cX6_empty 20 = .ok (.return_, 1) := by decide +kernel
theorem dX6_greatestFor_0 : decode cX6_greatestFor 0 = .ok (.aload_n 0, 1) := by decide +kernel
theorem dX6_greatestFor_1 : decode cX6_greatestFor 1 = .ok (.getfield 50, 3) := by decide +kernel
theorem dX6_greatestFor_4 : decode cX6_greatestFor 4 = .ok (.aload_n 1, 1) := by decide +kernel
theorem dX6_greatestFor_5 : decode cX6_greatestFor 5 = .ok (.aload_n 0, 1) := by decide +kernel
theorem dX6_greatestFor_6 : decode cX6_greatestFor 6 = .ok (.getfield 46, 3) := by decide +kernel
theorem dX6_greatestFor_9 : decode cX6_greatestFor 9 = .ok (.iload_n 2, 1) := by decide +kernel
theorem dX6_greatestFor_10 : decode cX6_greatestFor 10 = .ok (.aload_n 1, 1) := by decide +kernel
theorem dX6_greatestFor_11 : decode cX6_greatestFor 11 = .ok (.getfield 54, 3) := by decide +kernel
theorem dX6_greatestFor_14 : decode cX6_greatestFor 14 = .ok (.invokevirtual 59, 3) := by decide +kernel
theorem dX6_greatestFor_17 : decode cX6_greatestFor 17 = .ok (.invokevirtual 65, 3) := by decide +kernel
theorem dX6_greatestFor_20 : decode cX6_greatestFor 20 = .ok (.iconst 0, 1) := by decide +kernel
theorem dX6_greatestFor_21 : decode cX6_greatestFor 21 = .ok (.istore_n 3, 1) := by decide +kernel
theorem dX6_greatestFor_22 : decode cX6_greatestFor 22 = .ok (.iconst 0, 1) := by decide +kernel
theorem dX6_greatestFor_23 : decode cX6_greatestFor 23 = .ok (.istore 4, 2) := by decide +kernel
theorem dX6_greatestFor_25 : decode cX6_greatestFor 25 = .ok (.iload 4, 2) := by decide +kernel
theorem dX6_greatestFor_27 : decode cX6_greatestFor 27 = .ok (.aload_n 0, 1) := by decide +kernel
theorem dX6_greatestFor_28 : decode cX6_greatestFor 28 = .ok (.getfield 50, 3) := by decide +kernel
theorem dX6_greatestFor_31 : decode cX6_greatestFor 31 = .ok (.getfield 71, 3) := by decide +kernel
theorem dX6_greatestFor_34 : decode cX6_greatestFor 34 = .ok (.if_icmp .ge 47, 3) := by decide +kernel
theorem dX6_greatestFor_37 : decode cX6_greatestFor 37 = .ok (.aload_n 0, 1) := by decide +kernel
theorem dX6_greatestFor_38 : decode cX6_greatestFor 38 = .ok (.getfield 50, 3) := by decide +kernel
theorem dX6_greatestFor_41 : decode cX6_greatestFor 41 = .ok (.getfield 74, 3) := by decide +kernel
theorem dX6_greatestFor_44 : decode cX6_greatestFor 44 = .ok (.iload 4, 2) := by decide +kernel
theorem dX6_greatestFor_46 : decode cX6_greatestFor 46 = .ok (.iaload, 1) := by decide +kernel
theorem dX6_greatestFor_47 : decode cX6_greatestFor 47 = .ok (.istore 5, 2) := by decide +kernel
theorem dX6_greatestFor_49 : decode cX6_greatestFor 49 = .ok (.aload_n 0, 1) := by decide +kernel
theorem dX6_greatestFor_50 : decode cX6_greatestFor 50 = .ok (.getfield 42, 3) := by decide +kernel
theorem dX6_greatestFor_53 : decode cX6_greatestFor 53 = .ok (.iload 5, 2) := by decide +kernel
theorem dX6_greatestFor_55 : decode cX6_greatestFor 55 = .ok (.invokevirtual 117, 3) := by decide +kernel
theorem dX6_greatestFor_58 : decode cX6_greatestFor 58 = .ok (.ifCond .eq 17, 3) := by decide +kernel
theorem dX6_greatestFor_61 : decode cX6_greatestFor 61 = .ok (.iload_n 3, 1) := by decide +kernel
theorem dX6_greatestFor_62 : decode cX6_greatestFor 62 = .ok (.aload_n 0, 1) := by decide +kernel
theorem dX6_greatestFor_63 : decode cX6_greatestFor 63 = .ok (.getfield 11, 3) := by decide +kernel
theorem dX6_greatestFor_66 : decode cX6_greatestFor 66 = .ok (.iload 5, 2) := by decide +kernel
theorem dX6_greatestFor_68 : decode cX6_greatestFor 68 = .ok (.aaload, 1) := by decide +kernel
theorem dX6_greatestFor_69 : decode cX6_greatestFor 69 = .ok (.iload_n 2, 1) := by decide +kernel
theorem dX6_greatestFor_70 : decode cX6_greatestFor 70 = .ok (.iaload, 1) := by decide +kernel
theorem dX6_greatestFor_71 : decode cX6_greatestFor 71 = .ok (.invokestatic 130, 3) := by decide +kernel
theorem dX6_greatestFor_74 : decode cX6_greatestFor 74 = .ok (.istore_n 3, 1) := by decide +kernel
theorem dX6_greatestFor_75 : decode cX6_greatestFor 75 = .ok (.iinc 4 1, 3) := by decide +kernel
theorem dX6_greatestFor_78 : decode cX6_greatestFor 78 = .ok (.goto (-53), 3) := by decide +kernel
