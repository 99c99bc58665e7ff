theorem dX12_found_2 : decode cX12_found 2 = .ok (.iload_n 2, 1) := by decide +kernel
theorem dX12_found_3 : decode cX12_found 3 = .ok (.aload_n 0, 1) := by decide +kernel
theorem dX12_found_4 : decode cX12_found 4 = .ok (.getfield 133, 3) := by decide +kernel
theorem dX12_found_7 : decode cX12_found 7 = .ok (.if_icmp .ge 78, 3) := by decide +kernel
theorem dX12_found_10 : decode cX12_found 10 = .ok (.aload_n 0, 1) := by decide +kernel
theorem dX12_found_11 : decode cX12_found 11 = .ok (.getfield 7, 3) := by decide +kernel
theorem dX12_found_14 : decode cX12_found 14 = .ok (.iload_n 2, 1) := by decide +kernel
theorem dX12_found_15 : decode cX12_found 15 = .ok (.iaload, 1) := by decide +kernel
theorem dX12_found_16 : decode cX12_found 16 = .ok (.iload_n 1, 1) := by decide +kernel
theorem dX12_found_17 : decode cX12_found 17 = .ok (.if_icmp .ne 7, 3) := by decide +kernel
theorem dX12_found_20 : decode cX12_found 20 = .ok (.iconst 1, 1) := by decide +kernel
theorem dX12_found_21 : decode cX12_found 21 = .ok (.goto 4, 3) := by decide +kernel
theorem dX12_found_24 : decode cX12_found 24 = .ok (.iconst 0, 1) := by decide +kernel
theorem dX12_found_25 : decode cX12_found 25 = .ok (.istore_n 3, 1) := by decide +kernel
theorem dX12_found_26 : decode cX12_found 26 = .ok (.iconst 0, 1) := by decide +kernel
theorem dX12_found_27 : decode cX12_found 27 = .ok (.istore 4, 2) := by decide +kernel
theorem dX12_found_29 : decode cX12_found 29 = .ok (.iload 4, 2) := by decide +kernel
theorem dX12_found_31 : decode cX12_found 31 = .ok (.iload_n 1, 1) := by decide +kernel
theorem dX12_found_32 : decode cX12_found 32 = .ok (.if_icmp .ge 41, 3) := by decide +kernel
theorem dX12_found_35 : decode cX12_found 35 = .ok (.iload_n 3, 1) := by decide +kernel
theorem dX12_found_36 : decode cX12_found 36 = .ok (.ifCond .eq 37, 3) := by decide +kernel
theorem dX12_found_39 : decode cX12_found 39 = .ok (.aload_n 0, 1) := by decide +kernel
theorem dX12_found_40 : decode cX12_found 40 = .ok (.getfield 13, 3) := by decide +kernel
theorem dX12_found_43 : decode cX12_found 43 = .ok (.bipush 6, 2) := by decide +kernel
theorem dX12_found_45 : decode cX12_found 45 = .ok (.iload_n 2, 1) := by decide +kernel
theorem dX12_found_46 : decode cX12_found 46 = .ok (.imul, 1) := by decide +kernel
theorem dX12_found_47 : decode cX12_found 47 = .ok (.iload 4, 2) := by decide +kernel
theorem dX12_found_49 : decode cX12_found 49 = .ok (.iadd, 1) := by decide +kernel
theorem dX12_found_50 : decode cX12_found 50 = .ok (.iaload, 1) := by decide +kernel
theorem dX12_found_51 : decode cX12_found 51 = .ok (.aload_n 0, 1) := by decide +kernel
theorem dX12_found_52 : decode cX12_found 52 = .ok (.getfield 115, 3) := by decide +kernel
theorem dX12_found_55 : decode cX12_found 55 = .ok (.iload 4, 2) := by decide +kernel
theorem dX12_found_57 : decode cX12_found 57 = .ok (.iaload, 1) := by decide +kernel
theorem dX12_found_58 : decode cX12_found 58 = .ok (.if_icmp .ne 7, 3) := by decide +kernel
theorem dX12_found_61 : decode cX12_found 61 = .ok (.iconst 1, 1) := by decide +kernel
theorem dX12_found_62 : decode cX12_found 62 = .ok (.goto 4, 3) := by decide +kernel
theorem dX12_found_65 : decode cX12_found 65 = .ok (.iconst 0, 1) := by decide +kernel
theorem dX12_found_66 : decode cX12_found 66 = .ok (.istore_n 3, 1) := by decide +kernel
theorem dX12_found_67 : decode cX12_found 67 = .ok (.iinc 4 1, 3) := by decide +kernel
theorem dX12_found_70 : decode cX12_found 70 = .ok (.goto (-41), 3) := by decide +kernel
theorem dX12_found_73 : decode cX12_found 73 = .ok (.iload_n 3, 1) := by decide +kernel
theorem dX12_found_74 : decode cX12_found 74 = .ok (.ifCond .eq 5, 3) := by decide +kernel
theorem dX12_found_77 : decode cX12_found 77 = .ok (.iload_n 2, 1) := by decide +kernel
theorem dX12_found_78 : decode cX12_found 78 = .ok (.ireturn, 1) := by decide +kernel
theorem dX12_found_79 : decode cX12_found 79 = .ok (.iinc 2 1, 3) := by decide +kernel
theorem dX12_found_82 : decode cX12_found 82 = .ok (.goto (-80), 3) := by decide +kernel
theorem dX12_found_85 : decode cX12_found 85 = .ok (.iconst (-1), 1) := by decide +kernel
theorem dX12_found_86 : decode cX12_found 86 = .ok (.ireturn, 1) := by decide +kernel
theorem dX12_comesName_0 : decode cX12_comesName 0 = .ok (.aload_n 0, 1) := by decide +kernel
theorem dX12_comesName_1 : decode cX12_comesName 1 = .ok (.getfield 7, 3) := by decide +kernel
theorem dX12_comesName_4 : decode cX12_comesName 4 = .ok (.aload_n 0, 1) := by decide +kernel
theorem dX12_comesName_5 : decode cX12_comesName 5 = .ok (.getfield 133, 3) := by decide +kernel
theorem dX12_comesName_8 : decode cX12_comesName 8 = .ok (.iload_n 1, 1) := by decide +kernel
theorem dX12_comesName_9 : decode cX12_comesName 9 = .ok (.iastore, 1) := by decide +kernel
theorem dX12_comesName_10 : decode cX12_comesName 10 = .ok (.iconst 0, 1) := by decide +kernel
theorem dX12_comesName_11 : decode cX12_comesName 11 = .ok (.istore_n 2, 1) := by decide +kernel
theorem dX12_comesName_12 : decode cX12_comesName 12 = .ok (.iload_n 2, 1) := by decide +kernel
theorem dX12_comesName_13 : decode cX12_comesName 13 = .ok (.iload_n 1, 1) := by decide +kernel
theorem dX12_comesName_14 : decode cX12_comesName 14 = .ok (.if_icmp .ge 29, 3) := by decide +kernel
theorem dX12_comesName_17 : decode cX12_comesName 17 = .ok (.aload_n 0, 1) := by decide +kernel
theorem dX12_comesName_18 : decode cX12_comesName 18 = .ok (.getfield 13, 3) := by decide +kernel
theorem dX12_comesName_21 : decode cX12_comesName 21 = .ok (.bipush 6, 2) := by decide +kernel
theorem dX12_comesName_23 : decode cX12_comesName 23 = .ok (.aload_n 0, 1) := by decide +kernel
theorem dX12_comesName_24 : decode cX12_comesName 24 = .ok (.getfield 133, 3) := by decide +kernel
theorem dX12_comesName_27 : decode cX12_comesName 27 = .ok (.imul, 1) := by decide +kernel
theorem dX12_comesName_28 : decode cX12_comesName 28 = .ok (.iload_n 2, 1) := by decide +kernel
theorem dX12_comesName_29 : decode cX12_comesName 29 = .ok (.iadd, 1) := by decide +kernel
theorem dX12_comesName_30 : decode cX12_comesName 30 = .ok (.aload_n 0, 1) := by decide +kernel
theorem dX12_comesName_31 : decode cX12_comesName 31 = .ok (.getfield 115, 3) := by decide +kernel
theorem dX12_comesName_34 : decode cX12_comesName 34 = .ok (.iload_n 2, 1) := by decide +kernel
theorem dX12_comesName_35 : decode cX12_comesName 35 = .ok (.iaload, 1) := by decide +kernel
theorem dX12_comesName_36 : decode cX12_comesName 36 = .ok (.iastore, 1) := by decide +kernel
theorem dX12_comesName_37 : decode cX12_comesName 37 = .ok (.iinc 2 1, 3) := by decide +kernel
theorem dX12_comesName_40 : decode cX12_comesName 40 = .ok (.goto (-28), 3) := by decide +kernel
theorem dX12_comesName_43 : decode cX12_comesName 43 = .ok (.aload_n 0, 1) := by decide +kernel
theorem dX12_comesName_44 : decode cX12_comesName 44 = .ok (.dup, 1) := by decide +kernel
theorem dX12_comesName_45 : decode cX12_comesName 45 = .ok (.getfield 133, 3) := by decide +kernel
theorem dX12_comesName_48 : decode cX12_comesName 48 = .ok (.iconst 1, 1) := by decide +kernel
theorem dX12_comesName_49 : decode cX12_comesName 49 = .ok (.iadd, 1) := by decide +kernel
theorem dX12_comesName_50 : decode cX12_comesName 50 = .ok (.putfield 133, 3) := by decide +kernel
theorem dX12_comesName_53 : decode cX12_comesName 53 = .ok (.return_, 1) := by decide +kernel
theorem dX12_name_15 : decode cX12_name 15 = .ok (.iconst 0, 1) := by decide +kernel
theorem dX12_name_16 : decode cX12_name 16 = .ok (.istore_n 1, 1) := by decide +kernel
theorem dX12_name_17 : decode cX12_name 17 = .ok (.iload_n 1, 1) := by decide +kernel
theorem dX12_name_18 : decode cX12_name 18 = .ok (.aload_n 0, 1) := by decide +kernel
theorem dX12_name_19 : decode cX12_name 19 = .ok (.getfield 146, 3) := by decide +kernel
theorem dX12_name_22 : decode cX12_name 22 = .ok (.if_icmp .ge 21, 3) := by decide +kernel
theorem dX12_name_25 : decode cX12_name 25 = .ok (.aload_n 0, 1) := by decide +kernel
theorem dX12_name_26 : decode cX12_name 26 = .ok (.getfield 115, 3) := by decide +kernel
theorem dX12_name_29 : decode cX12_name 29 = .ok (.iload_n 1, 1) := by decide +kernel
theorem dX12_name_30 : decode cX12_name 30 = .ok (.aload_n 0, 1) := by decide +kernel
theorem dX12_name_31 : decode cX12_name 31 = .ok (.getfield 65, 3) := by decide +kernel
theorem dX12_name_34 : decode cX12_name 34 = .ok (.iload_n 1, 1) := by decide +kernel
theorem dX12_name_35 : decode cX12_name 35 = .ok (.iaload, 1) := by decide +kernel
theorem dX12_name_36 : decode cX12_name 36 = .ok (.iastore, 1) := by decide +kernel
theorem dX12_name_37 : decode cX12_name 37 = .ok (.iinc 1 1, 3) := by decide +kernel
theorem dX12_name_40 : decode cX12_name 40 = .ok (.goto (-23), 3) := by decide +kernel
theorem dX12_name_43 : decode cX12_name 43 = .ok (.aload_n 0, 1) := by decide +kernel
theorem dX12_name_44 : decode cX12_name 44 = .ok (.aload_n 0, 1) := by decide +kernel
theorem dX12_name_45 : decode cX12_name 45 = .ok (.getfield 146, 3) := by decide +kernel
theorem dX12_name_48 : decode cX12_name 48 = .ok (.invokevirtual 149, 3) := by decide +kernel
theorem dX12_name_51 : decode cX12_name 51 = .ok (.istore_n 1, 1) := by decide +kernel
theorem dX12_name_52 : decode cX12_name 52 = .ok (.iload_n 1, 1) := by decide +kernel
theorem dX12_name_53 : decode cX12_name 53 = .ok (.ifCond .ge 15, 3) := by decide +kernel
theorem dX12_name_56 : decode cX12_name 56 = .ok (.aload_n 0, 1) := by decide +kernel
theorem dX12_name_57 : decode cX12_name 57 = .ok (.getfield 133, 3) := by decide +kernel
theorem dX12_name_60 : decode cX12_name 60 = .ok (.bipush 40, 2) := by decide +kernel
theorem dX12_name_62 : decode cX12_name 62 = .ok (.if_icmp .ne 6, 3) := by decide +kernel
theorem dX12_name_65 : decode cX12_name 65 = .ok (.bipush (-3), 2) := by decide +kernel
theorem dX12_name_67 : decode cX12_name 67 = .ok (.ireturn, 1) := by decide +kernel
theorem dX12_name_68 : decode cX12_name 68 = .ok (.iload_n 1, 1) := by decide +kernel
theorem dX12_name_69 : decode cX12_name 69 = .ok (.ifCond .ge 16, 3) := by decide +kernel
theorem dX12_name_72 : decode cX12_name 72 = .ok (.aload_n 0, 1) := by decide +kernel
theorem dX12_name_73 : decode cX12_name 73 = .ok (.getfield 133, 3) := by decide +kernel
theorem dX12_name_76 : decode cX12_name 76 = .ok (.istore_n 1, 1) := by decide +kernel
theorem dX12_name_77 : decode cX12_name 77 = .ok (.aload_n 0, 1) := by decide +kernel
theorem dX12_name_78 : decode cX12_name 78 = .ok (.aload_n 0, 1) := by decide +kernel
theorem dX12_name_79 : decode cX12_name 79 = .ok (.getfield 146, 3) := by decide +kernel
theorem dX12_name_82 : decode cX12_name 82 = .ok (.invokevirtual 153, 3) := by decide +kernel
theorem dX12_name_85 : decode cX12_name 85 = .ok (.aload_n 0, 1) := by decide +kernel
theorem dX12_name_86 : decode cX12_name 86 = .ok (.iconst 0, 1) := by decide +kernel
theorem dX12_name_87 : decode cX12_name 87 = .ok (.putfield 146, 3) := by decide +kernel
theorem dX12_name_90 : decode cX12_name 90 = .ok (.iload_n 1, 1) := by decide +kernel
theorem dX12_name_91 : decode cX12_name 91 = .ok (.ireturn, 1) := by decide +kernel
theorem dX12_numberOf_0 : decode cX12_numberOf 0 = .ok (.iload_n 2, 1) := by decide +kernel
theorem dX12_numberOf_1 : decode cX12_numberOf 1 = .ok (.istore_n 3, 1) := by decide +kernel
theorem dX12_numberOf_2 : decode cX12_numberOf 2 = .ok (.iconst 0, 1) := by decide +kernel
theorem dX12_numberOf_3 : decode cX12_numberOf 3 = .ok (.istore 4, 2) := by decide +kernel
theorem dX12_numberOf_5 : decode cX12_numberOf 5 = .ok (.iload 4, 2) := by decide +kernel
theorem dX12_numberOf_7 : decode cX12_numberOf 7 = .ok (.aload_n 0, 1) := by decide +kernel
theorem dX12_numberOf_8 : decode cX12_numberOf 8 = .ok (.getfield 7, 3) := by decide +kernel
theorem dX12_numberOf_11 : decode cX12_numberOf 11 = .ok (.iload_n 1, 1) := by decide +kernel
theorem dX12_numberOf_12 : decode cX12_numberOf 12 = .ok (.iaload, 1) := by decide +kernel
theorem dX12_numberOf_13 : decode cX12_numberOf 13 = .ok (.if_icmp .ge 27, 3) := by decide +kernel
theorem dX12_numberOf_16 : decode cX12_numberOf 16 = .ok (.iload_n 3, 1) := by decide +kernel
theorem dX12_numberOf_17 : decode cX12_numberOf 17 = .ok (.aload_n 0, 1) := by decide +kernel
theorem dX12_numberOf_18 : decode cX12_numberOf 18 = .ok (.getfield 13, 3) := by decide +kernel
theorem dX12_numberOf_21 : decode cX12_numberOf 21 = .ok (.bipush 6, 2) := by decide +kernel
theorem dX12_numberOf_23 : decode cX12_numberOf 23 = .ok (.iload_n 1, 1) := by decide +kernel
theorem dX12_numberOf_24 : decode cX12_numberOf 24 = .ok (.imul, 1) := by decide +kernel
theorem dX12_numberOf_25 : decode cX12_numberOf 25 = .ok (.iload 4, 2) := by decide +kernel
theorem dX12_numberOf_27 : decode cX12_numberOf 27 = .ok (.iadd, 1) := by decide +kernel
theorem dX12_numberOf_28 : decode cX12_numberOf 28 = .ok (.iaload, 1) := by decide +kernel
theorem dX12_numberOf_29 : decode cX12_numberOf 29 = .ok (.ixor, 1) := by decide +kernel
theorem dX12_numberOf_30 : decode cX12_numberOf 30 = .ok (.ldc 157, 2) := by decide +kernel
theorem dX12_numberOf_32 : decode cX12_numberOf 32 = .ok (.imul, 1) := by decide +kernel
theorem dX12_numberOf_33 : decode cX12_numberOf 33 = .ok (.istore_n 3, 1) := by decide +kernel
theorem dX12_numberOf_34 : decode cX12_numberOf 34 = .ok (.iinc 4 1, 3) := by decide +kernel
theorem dX12_numberOf_37 : decode cX12_numberOf 37 = .ok (.goto (-32), 3) := by decide +kernel
theorem dX12_numberOf_40 : decode cX12_numberOf 40 = .ok (.iload_n 3, 1) := by decide +kernel
theorem dX12_numberOf_41 : decode cX12_numberOf 41 = .ok (.bipush 7, 2) := by decide +kernel
theorem dX12_numberOf_43 : decode cX12_numberOf 43 = .ok (.iushr, 1) := by decide +kernel
theorem dX12_numberOf_44 : decode cX12_numberOf 44 = .ok (.sipush 1000, 3) := by decide +kernel
theorem dX12_numberOf_47 : decode cX12_numberOf 47 = .ok (.irem, 1) := by decide +kernel
theorem dX12_numberOf_48 : decode cX12_numberOf 48 = .ok (.ireturn, 1) := by decide +kernel
theorem dX12_number_8 : decode cX12_number 8 = .ok (.aload_n 0, 1) := by decide +kernel
theorem dX12_number_9 : decode cX12_number 9 = .ok (.iload_n 1, 1) := by decide +kernel
theorem dX12_number_10 : decode cX12_number 10 = .ok (.iload_n 2, 1) := by decide +kernel
theorem dX12_number_11 : decode cX12_number 11 = .ok (.invokevirtual 162, 3) := by decide +kernel
theorem dX12_number_14 : decode cX12_number 14 = .ok (.goto 4, 3) := by decide +kernel
theorem dX12_keeper_30 : decode cX12_keeper 30 = .ok (.bipush (-3), 2) := by decide +kernel
theorem dX12_keeper_32 : decode cX12_keeper 32 = .ok (.ireturn, 1) := by decide +kernel
theorem dX12_countsNow_0 : decode cX12_countsNow 0 = .ok (.aload_n 0, 1) := by decide +kernel
theorem dX12_countsNow_1 : decode cX12_countsNow 1 = .ok (.getfield 22, 3) := by decide +kernel
theorem dX12_countsNow_4 : decode cX12_countsNow 4 = .ok (.iload_n 1, 1) := by decide +kernel
theorem dX12_countsNow_5 : decode cX12_countsNow 5 = .ok (.iaload, 1) := by decide +kernel
theorem dX12_countsNow_6 : decode cX12_countsNow 6 = .ok (.iconst 1, 1) := by decide +kernel
theorem dX12_countsNow_7 : decode cX12_countsNow 7 = .ok (.if_icmp .eq 14, 3) := by decide +kernel
theorem dX12_countsNow_10 : decode cX12_countsNow 10 = .ok (.aload_n 0, 1) := by decide +kernel
theorem dX12_countsNow_11 : decode cX12_countsNow 11 = .ok (.getfield 22, 3) := by decide +kernel
theorem dX12_countsNow_14 : decode cX12_countsNow 14 = .ok (.iload_n 1, 1) := by decide +kernel
theorem dX12_countsNow_15 : decode cX12_countsNow 15 = .ok (.iaload, 1) := by decide +kernel
theorem dX12_countsNow_16 : decode cX12_countsNow 16 = .ok (.bipush 6, 2) := by decide +kernel
theorem dX12_countsNow_18 : decode cX12_countsNow 18 = .ok (.if_icmp .ne 14, 3) := by decide +kernel
theorem dX12_countsNow_21 : decode cX12_countsNow 21 = .ok (.iconst 2, 1) := by decide +kernel
theorem dX12_countsNow_22 : decode cX12_countsNow 22 = .ok (.aload_n 0, 1) := by decide +kernel
theorem dX12_countsNow_23 : decode cX12_countsNow 23 = .ok (.getfield 19, 3) := by decide +kernel
theorem dX12_countsNow_26 : decode cX12_countsNow 26 = .ok (.iload_n 1, 1) := by decide +kernel
theorem dX12_countsNow_27 : decode cX12_countsNow 27 = .ok (.iaload, 1) := by decide +kernel
theorem dX12_countsNow_28 : decode cX12_countsNow 28 = .ok (.imul, 1) := by decide +kernel
theorem dX12_countsNow_29 : decode cX12_countsNow 29 = .ok (.goto 9, 3) := by decide +kernel
theorem dX12_countsNow_32 : decode cX12_countsNow 32 = .ok (.aload_n 0, 1) := by decide +kernel
theorem dX12_countsNow_33 : decode cX12_countsNow 33 = .ok (.getfield 19, 3) := by decide +kernel
theorem dX12_countsNow_36 : decode cX12_countsNow 36 = .ok (.iload_n 1, 1) := by decide +kernel
theorem dX12_countsNow_37 : decode cX12_countsNow 37 = .ok (.iaload, 1) := by decide +kernel
theorem dX12_countsNow_38 : decode cX12_countsNow 38 = .ok (.ireturn, 1) := by decide +kernel
theorem dX12_become_8 : decode cX12_become 8 = .ok (.iload_n 2, 1) := by decide +kernel
theorem dX12_become_9 : decode cX12_become 9 = .ok (.iconst 0, 1) := by decide +kernel
theorem dX12_become_10 : decode cX12_become 10 = .ok (.bipush 6, 2) := by decide +kernel
theorem dX12_become_12 : decode cX12_become 12 = .ok (.invokestatic 136, 3) := by decide +kernel
theorem dX12_become_15 : decode cX12_become 15 = .ok (.ifCond .ne 5, 3) := by decide +kernel
theorem dX12_become_20 : decode cX12_become 20 = .ok (.aload_n 0, 1) := by decide +kernel
theorem dX12_become_21 : decode cX12_become 21 = .ok (.getfield 22, 3) := by decide +kernel
theorem dX12_become_24 : decode cX12_become 24 = .ok (.iload_n 1, 1) := by decide +kernel
theorem dX12_become_25 : decode cX12_become 25 = .ok (.iaload, 1) := by decide +kernel
theorem dX12_become_26 : decode cX12_become 26 = .ok (.istore_n 3, 1) := by decide +kernel
theorem dX12_become_27 : decode cX12_become 27 = .ok (.aload_n 0, 1) := by decide +kernel
theorem dX12_become_28 : decode cX12_become 28 = .ok (.getfield 22, 3) := by decide +kernel
theorem dX12_become_31 : decode cX12_become 31 = .ok (.iload_n 1, 1) := by decide +kernel
theorem dX12_become_32 : decode cX12_become 32 = .ok (.iload_n 2, 1) := by decide +kernel
theorem dX12_become_33 : decode cX12_become 33 = .ok (.iastore, 1) := by decide +kernel
theorem dX12_become_34 : decode cX12_become 34 = .ok (.iconst 0, 1) := by decide +kernel
theorem dX12_become_35 : decode cX12_become 35 = .ok (.istore 4, 2) := by decide +kernel
theorem dX12_become_37 : decode cX12_become 37 = .ok (.iload 4, 2) := by decide +kernel
theorem dX12_become_39 : decode cX12_become 39 = .ok (.sipush 480, 3) := by decide +kernel
theorem dX12_become_42 : decode cX12_become 42 = .ok (.if_icmp .ge 100, 3) := by decide +kernel
theorem dX12_become_45 : decode cX12_become 45 = .ok (.iload_n 3, 1) := by decide +kernel
theorem dX12_become_46 : decode cX12_become 46 = .ok (.iconst 4, 1) := by decide +kernel
theorem dX12_become_47 : decode cX12_become 47 = .ok (.if_icmp .ne 95, 3) := by decide +kernel
theorem dX12_become_50 : decode cX12_become 50 = .ok (.iload_n 2, 1) := by decide +kernel
theorem dX12_become_51 : decode cX12_become 51 = .ok (.iconst 4, 1) := by decide +kernel
theorem dX12_become_52 : decode cX12_become 52 = .ok (.if_icmp .eq 90, 3) := by decide +kernel
theorem dX12_become_55 : decode cX12_become 55 = .ok (.aload_n 0, 1) := by decide +kernel
theorem dX12_become_56 : decode cX12_become 56 = .ok (.getfield 74, 3) := by decide +kernel
theorem dX12_become_59 : decode cX12_become 59 = .ok (.iload 4, 2) := by decide +kernel
theorem dX12_become_61 : decode cX12_become 61 = .ok (.iaload, 1) := by decide +kernel
theorem dX12_become_62 : decode cX12_become 62 = .ok (.iload_n 1, 1) := by decide +kernel
theorem dX12_become_63 : decode cX12_become 63 = .ok (.if_icmp .ne 73, 3) := by decide +kernel
theorem dX12_become_66 : decode cX12_become 66 = .ok (.bipush 40, 2) := by decide +kernel
theorem dX12_become_68 : decode cX12_become 68 = .ok (.iload_n 1, 1) := by decide +kernel
theorem dX12_become_69 : decode cX12_become 69 = .ok (.imul, 1) := by decide +kernel
theorem dX12_become_70 : decode cX12_become 70 = .ok (.iload 4, 2) := by decide +kernel
theorem dX12_become_72 : decode cX12_become 72 = .ok (.bipush 40, 2) := by decide +kernel
theorem dX12_become_74 : decode cX12_become 74 = .ok (.irem, 1) := by decide +kernel
theorem dX12_become_75 : decode cX12_become 75 = .ok (.iadd, 1) := by decide +kernel
theorem dX12_become_76 : decode cX12_become 76 = .ok (.istore 5, 2) := by decide +kernel
theorem dX12_become_78 : decode cX12_become 78 = .ok (.aload_n 0, 1) := by decide +kernel
theorem dX12_become_79 : decode cX12_become 79 = .ok (.getfield 68, 3) := by decide +kernel
theorem dX12_become_82 : decode cX12_become 82 = .ok (.iload 5, 2) := by decide +kernel
theorem dX12_become_84 : decode cX12_become 84 = .ok (.aload_n 0, 1) := by decide +kernel
theorem dX12_become_85 : decode cX12_become 85 = .ok (.getfield 71, 3) := by decide +kernel
theorem dX12_become_88 : decode cX12_become 88 = .ok (.iload 4, 2) := by decide +kernel
theorem dX12_become_90 : decode cX12_become 90 = .ok (.iaload, 1) := by decide +kernel
theorem dX12_become_91 : decode cX12_become 91 = .ok (.aload_n 0, 1) := by decide +kernel
theorem dX12_become_92 : decode cX12_become 92 = .ok (.getfield 68, 3) := by decide +kernel
theorem dX12_become_95 : decode cX12_become 95 = .ok (.iload 5, 2) := by decide +kernel
theorem dX12_become_97 : decode cX12_become 97 = .ok (.iaload, 1) := by decide +kernel
theorem dX12_become_98 : decode cX12_become 98 = .ok (.if_icmp .le 13, 3) := by decide +kernel
theorem dX12_become_101 : decode cX12_become 101 = .ok (.aload_n 0, 1) := by decide +kernel
theorem dX12_become_102 : decode cX12_become 102 = .ok (.getfield 71, 3) := by decide +kernel
theorem dX12_become_105 : decode cX12_become 105 = .ok (.iload 4, 2) := by decide +kernel
theorem dX12_become_107 : decode cX12_become 107 = .ok (.iaload, 1) := by decide +kernel
theorem dX12_become_108 : decode cX12_become 108 = .ok (.goto 10, 3) := by decide +kernel
theorem dX12_become_111 : decode cX12_become 111 = .ok (.aload_n 0, 1) := by decide +kernel
theorem dX12_become_112 : decode cX12_become 112 = .ok (.getfield 68, 3) := by decide +kernel
theorem dX12_become_115 : decode cX12_become 115 = .ok (.iload 5, 2) := by decide +kernel
theorem dX12_become_117 : decode cX12_become 117 = .ok (.iaload, 1) := by decide +kernel
theorem dX12_become_118 : decode cX12_become 118 = .ok (.iastore, 1) := by decide +kernel
theorem dX12_become_119 : decode cX12_become 119 = .ok (.aload_n 0, 1) := by decide +kernel
theorem dX12_become_120 : decode cX12_become 120 = .ok (.getfield 71, 3) := by decide +kernel
theorem dX12_become_123 : decode cX12_become 123 = .ok (.iload 4, 2) := by decide +kernel
theorem dX12_become_125 : decode cX12_become 125 = .ok (.iconst 0, 1) := by decide +kernel
theorem dX12_become_126 : decode cX12_become 126 = .ok (.iastore, 1) := by decide +kernel
theorem dX12_become_127 : decode cX12_become 127 = .ok (.aload_n 0, 1) := by decide +kernel
theorem dX12_become_128 : decode cX12_become 128 = .ok (.getfield 74, 3) := by decide +kernel
theorem dX12_become_131 : decode cX12_become 131 = .ok (.iload 4, 2) := by decide +kernel
theorem dX12_become_133 : decode cX12_become 133 = .ok (.bipush (-2), 2) := by decide +kernel
theorem dX12_become_135 : decode cX12_become 135 = .ok (.iastore, 1) := by decide +kernel
theorem dX12_become_136 : decode cX12_become 136 = .ok (.iinc 4 1, 3) := by decide +kernel
theorem dX12_become_139 : decode cX12_become 139 = .ok (.goto (-102), 3) := by decide +kernel
theorem dX12_become_142 : decode cX12_become 142 = .ok (.iload_n 3, 1) := by decide +kernel
theorem dX12_become_143 : decode cX12_become 143 = .ok (.ireturn, 1) := by decide +kernel
theorem dX12_strength_8 : decode cX12_strength 8 = .ok (.iload_n 2, 1) := by decide +kernel
theorem dX12_strength_9 : decode cX12_strength 9 = .ok (.iconst 1, 1) := by decide +kernel
theorem dX12_strength_10 : decode cX12_strength 10 = .ok (.bipush 8, 2) := by decide +kernel
theorem dX12_strength_12 : decode cX12_strength 12 = .ok (.invokestatic 136, 3) := by decide +kernel
theorem dX12_strength_15 : decode cX12_strength 15 = .ok (.ifCond .ne 5, 3) := by decide +kernel
theorem dX12_strength_20 : decode cX12_strength 20 = .ok (.aload_n 0, 1) := by decide +kernel
theorem dX12_strength_21 : decode cX12_strength 21 = .ok (.getfield 19, 3) := by decide +kernel
theorem dX12_strength_24 : decode cX12_strength 24 = .ok (.iload_n 1, 1) := by decide +kernel
theorem dX12_strength_25 : decode cX12_strength 25 = .ok (.iaload, 1) := by decide +kernel
theorem dX12_strength_26 : decode cX12_strength 26 = .ok (.istore_n 3, 1) := by decide +kernel
theorem dX12_strength_27 : decode cX12_strength 27 = .ok (.aload_n 0, 1) := by decide +kernel
theorem dX12_strength_28 : decode cX12_strength 28 = .ok (.getfield 19, 3) := by decide +kernel
theorem dX12_strength_31 : decode cX12_strength 31 = .ok (.iload_n 1, 1) := by decide +kernel
theorem dX12_strength_32 : decode cX12_strength 32 = .ok (.iload_n 2, 1) := by decide +kernel
theorem dX12_strength_33 : decode cX12_strength 33 = .ok (.iastore, 1) := by decide +kernel
theorem dX12_strength_34 : decode cX12_strength 34 = .ok (.iload_n 3, 1) := by decide +kernel
theorem dX12_strength_35 : decode cX12_strength 35 = .ok (.ireturn, 1) := by decide +kernel
theorem dX12_many_0 : decode cX12_many 0 = .ok (.iconst 0, 1) := by decide +kernel
theorem dX12_many_1 : decode cX12_many 1 = .ok (.istore_n 3, 1) := by decide +kernel
theorem dX12_many_2 : decode cX12_many 2 = .ok (.iconst 0, 1) := by decide +kernel
theorem dX12_many_3 : decode cX12_many 3 = .ok (.istore 4, 2) := by decide +kernel
theorem dX12_many_5 : decode cX12_many 5 = .ok (.iload 4, 2) := by decide +kernel
theorem dX12_many_7 : decode cX12_many 7 = .ok (.bipush 40, 2) := by decide +kernel
theorem dX12_many_9 : decode cX12_many 9 = .ok (.if_icmp .ge 59, 3) := by decide +kernel
theorem dX12_many_12 : decode cX12_many 12 = .ok (.iload_n 3, 1) := by decide +kernel
theorem dX12_many_13 : decode cX12_many 13 = .ok (.iload_n 2, 1) := by decide +kernel
theorem dX12_many_14 : decode cX12_many 14 = .ok (.ifCond .eq 26, 3) := by decide +kernel
theorem dX12_many_17 : decode cX12_many 17 = .ok (.aload_n 0, 1) := by decide +kernel
theorem dX12_many_18 : decode cX12_many 18 = .ok (.getfield 68, 3) := by decide +kernel
theorem dX12_many_21 : decode cX12_many 21 = .ok (.bipush 40, 2) := by decide +kernel
theorem dX12_many_23 : decode cX12_many 23 = .ok (.iload_n 1, 1) := by decide +kernel
theorem dX12_many_24 : decode cX12_many 24 = .ok (.imul, 1) := by decide +kernel
theorem dX12_many_25 : decode cX12_many 25 = .ok (.iload 4, 2) := by decide +kernel
theorem dX12_many_27 : decode cX12_many 27 = .ok (.iadd, 1) := by decide +kernel
theorem dX12_many_28 : decode cX12_many 28 = .ok (.iaload, 1) := by decide +kernel
theorem dX12_many_29 : decode cX12_many 29 = .ok (.ifCond .le 7, 3) := by decide +kernel
theorem dX12_many_32 : decode cX12_many 32 = .ok (.iconst 1, 1) := by decide +kernel
theorem dX12_many_33 : decode cX12_many 33 = .ok (.goto 27, 3) := by decide +kernel
theorem dX12_many_36 : decode cX12_many 36 = .ok (.iconst 0, 1) := by decide +kernel
theorem dX12_many_37 : decode cX12_many 37 = .ok (.goto 23, 3) := by decide +kernel
theorem dX12_many_40 : decode cX12_many 40 = .ok (.aload_n 0, 1) := by decide +kernel
theorem dX12_many_41 : decode cX12_many 41 = .ok (.getfield 71, 3) := by decide +kernel
theorem dX12_many_44 : decode cX12_many 44 = .ok (.bipush 40, 2) := by decide +kernel
theorem dX12_many_46 : decode cX12_many 46 = .ok (.iload_n 1, 1) := by decide +kernel
theorem dX12_many_47 : decode cX12_many 47 = .ok (.imul, 1) := by decide +kernel
theorem dX12_many_48 : decode cX12_many 48 = .ok (.iload 4, 2) := by decide +kernel
theorem dX12_many_50 : decode cX12_many 50 = .ok (.iadd, 1) := by decide +kernel
theorem dX12_many_51 : decode cX12_many 51 = .ok (.iaload, 1) := by decide +kernel
theorem dX12_many_52 : decode cX12_many 52 = .ok (.ifCond .le 7, 3) := by decide +kernel
theorem dX12_many_55 : decode cX12_many 55 = .ok (.iconst 1, 1) := by decide +kernel
theorem dX12_many_56 : decode cX12_many 56 = .ok (.goto 4, 3) := by decide +kernel
theorem dX12_many_59 : decode cX12_many 59 = .ok (.iconst 0, 1) := by decide +kernel
theorem dX12_many_60 : decode cX12_many 60 = .ok (.iadd, 1) := by decide +kernel
theorem dX12_many_61 : decode cX12_many 61 = .ok (.istore_n 3, 1) := by decide +kernel
theorem dX12_many_62 : decode cX12_many 62 = .ok (.iinc 4 1, 3) := by decide +kernel
theorem dX12_many_65 : decode cX12_many 65 = .ok (.goto (-60), 3) := by decide +kernel
theorem dX12_many_68 : decode cX12_many 68 = .ok (.iload_n 3, 1) := by decide +kernel
theorem dX12_many_69 : decode cX12_many 69 = .ok (.ireturn, 1) := by decide +kernel
theorem dX12_ofKeeper_11 : decode cX12_ofKeeper 11 = .ok (.iload_n 2, 1) := by decide +kernel
theorem dX12_ofKeeper_12 : decode cX12_ofKeeper 12 = .ok (.tableswitch 111 0 7 #[48, 55, 62, 69, 75, 82, 89, 96], 48) := by decide +kernel
theorem dX12_ofKeeper_60 : decode cX12_ofKeeper 60 = .ok (.aload_n 0, 1) := by decide +kernel
theorem dX12_ofKeeper_61 : decode cX12_ofKeeper 61 = .ok (.getfield 22, 3) := by decide +kernel
theorem dX12_ofKeeper_64 : decode cX12_ofKeeper 64 = .ok (.iload_n 1, 1) := by decide +kernel
theorem dX12_ofKeeper_65 : decode cX12_ofKeeper 65 = .ok (.iaload, 1) := by decide +kernel
theorem dX12_ofKeeper_66 : decode cX12_ofKeeper 66 = .ok (.ireturn, 1) := by decide +kernel
theorem dX12_ofKeeper_67 : decode cX12_ofKeeper 67 = .ok (.aload_n 0, 1) := by decide +kernel
theorem dX12_ofKeeper_68 : decode cX12_ofKeeper 68 = .ok (.getfield 16, 3) := by decide +kernel
theorem dX12_ofKeeper_71 : decode cX12_ofKeeper 71 = .ok (.iload_n 1, 1) := by decide +kernel
theorem dX12_ofKeeper_72 : decode cX12_ofKeeper 72 = .ok (.iaload, 1) := by decide +kernel
theorem dX12_ofKeeper_73 : decode cX12_ofKeeper 73 = .ok (.ireturn, 1) := by decide +kernel
theorem dX12_ofKeeper_74 : decode cX12_ofKeeper 74 = .ok (.aload_n 0, 1) := by decide +kernel
theorem dX12_ofKeeper_75 : decode cX12_ofKeeper 75 = .ok (.getfield 19, 3) := by decide +kernel
theorem dX12_ofKeeper_78 : decode cX12_ofKeeper 78 = .ok (.iload_n 1, 1) := by decide +kernel
theorem dX12_ofKeeper_79 : decode cX12_ofKeeper 79 = .ok (.iaload, 1) := by decide +kernel
theorem dX12_ofKeeper_80 : decode cX12_ofKeeper 80 = .ok (.ireturn, 1) := by decide +kernel
theorem dX12_ofKeeper_81 : decode cX12_ofKeeper 81 = .ok (.aload_n 0, 1) := by decide +kernel
theorem dX12_ofKeeper_82 : decode cX12_ofKeeper 82 = .ok (.iload_n 1, 1) := by decide +kernel
theorem dX12_ofKeeper_83 : decode cX12_ofKeeper 83 = .ok (.invokevirtual 170, 3) := by decide +kernel
theorem dX12_ofKeeper_86 : decode cX12_ofKeeper 86 = .ok (.ireturn, 1) := by decide +kernel
theorem dX12_ofKeeper_87 : decode cX12_ofKeeper 87 = .ok (.aload_n 0, 1) := by decide +kernel
theorem dX12_ofKeeper_88 : decode cX12_ofKeeper 88 = .ok (.getfield 25, 3) := by decide +kernel
theorem dX12_ofKeeper_91 : decode cX12_ofKeeper 91 = .ok (.iload_n 1, 1) := by decide +kernel
theorem dX12_ofKeeper_92 : decode cX12_ofKeeper 92 = .ok (.iaload, 1) := by decide +kernel
theorem dX12_ofKeeper_93 : decode cX12_ofKeeper 93 = .ok (.ireturn, 1) := by decide +kernel
theorem dX12_ofKeeper_94 : decode cX12_ofKeeper 94 = .ok (.aload_n 0, 1) := by decide +kernel
theorem dX12_ofKeeper_95 : decode cX12_ofKeeper 95 = .ok (.iload_n 1, 1) := by decide +kernel
theorem dX12_ofKeeper_96 : decode cX12_ofKeeper 96 = .ok (.iconst 1, 1) := by decide +kernel
theorem dX12_ofKeeper_97 : decode cX12_ofKeeper 97 = .ok (.invokevirtual 173, 3) := by decide +kernel
theorem dX12_ofKeeper_100 : decode cX12_ofKeeper 100 = .ok (.ireturn, 1) := by decide +kernel
theorem dX12_ofKeeper_101 : decode cX12_ofKeeper 101 = .ok (.aload_n 0, 1) := by decide +kernel
theorem dX12_ofKeeper_102 : decode cX12_ofKeeper 102 = .ok (.iload_n 1, 1) := by decide +kernel
theorem dX12_ofKeeper_103 : decode cX12_ofKeeper 103 = .ok (.iconst 0, 1) := by decide +kernel
theorem dX12_ofKeeper_104 : decode cX12_ofKeeper 104 = .ok (.invokevirtual 173, 3) := by decide +kernel
theorem dX12_ofKeeper_107 : decode cX12_ofKeeper 107 = .ok (.ireturn, 1) := by decide +kernel
theorem dX12_ofKeeper_108 : decode cX12_ofKeeper 108 = .ok (.aload_n 0, 1) := by decide +kernel
theorem dX12_ofKeeper_109 : decode cX12_ofKeeper 109 = .ok (.getfield 28, 3) := by decide +kernel
theorem dX12_ofKeeper_112 : decode cX12_ofKeeper 112 = .ok (.iload_n 1, 1) := by decide +kernel
theorem dX12_ofKeeper_113 : decode cX12_ofKeeper 113 = .ok (.baload, 1) := by decide +kernel
theorem dX12_ofKeeper_114 : decode cX12_ofKeeper 114 = .ok (.ifCond .eq 7, 3) := by decide +kernel
theorem dX12_ofKeeper_117 : decode cX12_ofKeeper 117 = .ok (.iconst 1, 1) := by decide +kernel
theorem dX12_ofKeeper_118 : decode cX12_ofKeeper 118 = .ok (.goto 4, 3) := by decide +kernel
theorem dX12_ofKeeper_121 : decode cX12_ofKeeper 121 = .ok (.iconst 0, 1) := by decide +kernel
theorem dX12_ofKeeper_122 : decode cX12_ofKeeper 122 = .ok (.ireturn, 1) := by decide +kernel
theorem dX12_ofKeeper_123 : decode cX12_ofKeeper 123 = .ok (.ldc 169, 2) := by decide +kernel
theorem dX12_ofKeeper_125 : decode cX12_ofKeeper 125 = .ok (.ireturn, 1) := by decide +kernel
theorem dX12_here_0 : decode cX12_here 0 = .ok (.aload_n 0, 1) := by decide +kernel
theorem dX12_here_1 : decode cX12_here 1 = .ok (.getfield 177, 3) := by decide +kernel
theorem dX12_here_4 : decode cX12_here 4 = .ok (.aload_n 0, 1) := by decide +kernel
theorem dX12_here_5 : decode cX12_here 5 = .ok (.getfield 47, 3) := by decide +kernel
theorem dX12_here_8 : decode cX12_here 8 = .ok (.aload_n 0, 1) := by decide +kernel
theorem dX12_here_9 : decode cX12_here 9 = .ok (.getfield 180, 3) := by decide +kernel
theorem dX12_here_12 : decode cX12_here 12 = .ok (.iaload, 1) := by decide +kernel
theorem dX12_here_13 : decode cX12_here 13 = .ok (.if_icmp .ge 23, 3) := by decide +kernel
theorem dX12_here_16 : decode cX12_here 16 = .ok (.aload_n 0, 1) := by decide +kernel
theorem dX12_here_17 : decode cX12_here 17 = .ok (.getfield 50, 3) := by decide +kernel
theorem dX12_here_20 : decode cX12_here 20 = .ok (.bipush 80, 2) := by decide +kernel
theorem dX12_here_22 : decode cX12_here 22 = .ok (.aload_n 0, 1) := by decide +kernel
theorem dX12_here_23 : decode cX12_here 23 = .ok (.getfield 180, 3) := by decide +kernel
theorem dX12_here_26 : decode cX12_here 26 = .ok (.imul, 1) := by decide +kernel
theorem dX12_here_27 : decode cX12_here 27 = .ok (.aload_n 0, 1) := by decide +kernel
theorem dX12_here_28 : decode cX12_here 28 = .ok (.getfield 177, 3) := by decide +kernel
theorem dX12_here_31 : decode cX12_here 31 = .ok (.iadd, 1) := by decide +kernel
theorem dX12_here_32 : decode cX12_here 32 = .ok (.iaload, 1) := by decide +kernel
theorem dX12_here_33 : decode cX12_here 33 = .ok (.goto 4, 3) := by decide +kernel
theorem dX12_here_36 : decode cX12_here 36 = .ok (.iconst (-1), 1) := by decide +kernel
theorem dX12_here_37 : decode cX12_here 37 = .ok (.ireturn, 1) := by decide +kernel
theorem dX12_eats_0 : decode cX12_eats 0 = .ok (.aload_n 0, 1) := by decide +kernel
theorem dX12_eats_1 : decode cX12_eats 1 = .ok (.getfield 183, 3) := by decide +kernel
theorem dX12_eats_4 : decode cX12_eats 4 = .ok (.ifCond .ne 24, 3) := by decide +kernel
theorem dX12_eats_7 : decode cX12_eats 7 = .ok (.aload_n 0, 1) := by decide +kernel
theorem dX12_eats_8 : decode cX12_eats 8 = .ok (.invokevirtual 187, 3) := by decide +kernel
theorem dX12_eats_11 : decode cX12_eats 11 = .ok (.iload_n 1, 1) := by decide +kernel
theorem dX12_eats_12 : decode cX12_eats 12 = .ok (.if_icmp .ne 16, 3) := by decide +kernel
theorem dX12_eats_15 : decode cX12_eats 15 = .ok (.aload_n 0, 1) := by decide +kernel
theorem dX12_eats_16 : decode cX12_eats 16 = .ok (.dup, 1) := by decide +kernel
theorem dX12_eats_17 : decode cX12_eats 17 = .ok (.getfield 177, 3) := by decide +kernel
theorem dX12_eats_20 : decode cX12_eats 20 = .ok (.iconst 1, 1) := by decide +kernel
theorem dX12_eats_21 : decode cX12_eats 21 = .ok (.iadd, 1) := by decide +kernel
theorem dX12_eats_22 : decode cX12_eats 22 = .ok (.putfield 177, 3) := by decide +kernel
theorem dX12_eats_25 : decode cX12_eats 25 = .ok (.goto 8, 3) := by decide +kernel
theorem dX12_eats_28 : decode cX12_eats 28 = .ok (.aload_n 0, 1) := by decide +kernel
theorem dX12_eats_29 : decode cX12_eats 29 = .ok (.iconst 1, 1) := by decide +kernel
theorem dX12_eats_30 : decode cX12_eats 30 = .ok (.putfield 183, 3) := by decide +kernel
theorem dX12_eats_33 : decode cX12_eats 33 = .ok (.return_, 1) := by decide +kernel
theorem dX12_sum_0 : decode cX12_sum 0 = .ok (.aload_n 0, 1) := by decide +kernel
theorem dX12_sum_1 : decode cX12_sum 1 = .ok (.invokevirtual 191, 3) := by decide +kernel
theorem dX12_sum_4 : decode cX12_sum 4 = .ok (.istore_n 1, 1) := by decide +kernel
theorem dX12_sum_5 : decode cX12_sum 5 = .ok (.aload_n 0, 1) := by decide +kernel
theorem dX12_sum_6 : decode cX12_sum 6 = .ok (.getfield 183, 3) := by decide +kernel
theorem dX12_sum_9 : decode cX12_sum 9 = .ok (.ifCond .ne 68, 3) := by decide +kernel
theorem dX12_sum_12 : decode cX12_sum 12 = .ok (.aload_n 0, 1) := by decide +kernel
theorem dX12_sum_13 : decode cX12_sum 13 = .ok (.invokevirtual 187, 3) := by decide +kernel
theorem dX12_sum_16 : decode cX12_sum 16 = .ok (.bipush 43, 2) := by decide +kernel
theorem dX12_sum_18 : decode cX12_sum 18 = .ok (.if_icmp .eq 12, 3) := by decide +kernel
theorem dX12_sum_21 : decode cX12_sum 21 = .ok (.aload_n 0, 1) := by decide +kernel
theorem dX12_sum_22 : decode cX12_sum 22 = .ok (.invokevirtual 187, 3) := by decide +kernel
theorem dX12_sum_25 : decode cX12_sum 25 = .ok (.bipush 45, 2) := by decide +kernel
theorem dX12_sum_27 : decode cX12_sum 27 = .ok (.if_icmp .ne 50, 3) := by decide +kernel
theorem dX12_sum_30 : decode cX12_sum 30 = .ok (.aload_n 0, 1) := by decide +kernel
theorem dX12_sum_31 : decode cX12_sum 31 = .ok (.invokevirtual 187, 3) := by decide +kernel
theorem dX12_sum_34 : decode cX12_sum 34 = .ok (.bipush 43, 2) := by decide +kernel
theorem dX12_sum_36 : decode cX12_sum 36 = .ok (.if_icmp .ne 7, 3) := by decide +kernel
theorem dX12_sum_39 : decode cX12_sum 39 = .ok (.iconst 1, 1) := by decide +kernel
theorem dX12_sum_40 : decode cX12_sum 40 = .ok (.goto 4, 3) := by decide +kernel
theorem dX12_sum_43 : decode cX12_sum 43 = .ok (.iconst 0, 1) := by decide +kernel
theorem dX12_sum_44 : decode cX12_sum 44 = .ok (.istore_n 2, 1) := by decide +kernel
theorem dX12_sum_45 : decode cX12_sum 45 = .ok (.aload_n 0, 1) := by decide +kernel
theorem dX12_sum_46 : decode cX12_sum 46 = .ok (.dup, 1) := by decide +kernel
theorem dX12_sum_47 : decode cX12_sum 47 = .ok (.getfield 177, 3) := by decide +kernel
theorem dX12_sum_50 : decode cX12_sum 50 = .ok (.iconst 1, 1) := by decide +kernel
theorem dX12_sum_51 : decode cX12_sum 51 = .ok (.iadd, 1) := by decide +kernel
theorem dX12_sum_52 : decode cX12_sum 52 = .ok (.putfield 177, 3) := by decide +kernel
theorem dX12_sum_55 : decode cX12_sum 55 = .ok (.aload_n 0, 1) := by decide +kernel
theorem dX12_sum_56 : decode cX12_sum 56 = .ok (.invokevirtual 191, 3) := by decide +kernel
theorem dX12_sum_59 : decode cX12_sum 59 = .ok (.istore_n 3, 1) := by decide +kernel
theorem dX12_sum_60 : decode cX12_sum 60 = .ok (.iload_n 2, 1) := by decide +kernel
theorem dX12_sum_61 : decode cX12_sum 61 = .ok (.ifCond .eq 9, 3) := by decide +kernel
theorem dX12_sum_64 : decode cX12_sum 64 = .ok (.iload_n 1, 1) := by decide +kernel
theorem dX12_sum_65 : decode cX12_sum 65 = .ok (.iload_n 3, 1) := by decide +kernel
theorem dX12_sum_66 : decode cX12_sum 66 = .ok (.iadd, 1) := by decide +kernel
theorem dX12_sum_67 : decode cX12_sum 67 = .ok (.goto 6, 3) := by decide +kernel
theorem dX12_sum_70 : decode cX12_sum 70 = .ok (.iload_n 1, 1) := by decide +kernel
theorem dX12_sum_71 : decode cX12_sum 71 = .ok (.iload_n 3, 1) := by decide +kernel
theorem dX12_sum_72 : decode cX12_sum 72 = .ok (.isub, 1) := by decide +kernel
theorem dX12_sum_73 : decode cX12_sum 73 = .ok (.istore_n 1, 1) := by decide +kernel
theorem dX12_sum_74 : decode cX12_sum 74 = .ok (.goto (-69), 3) := by decide +kernel
theorem dX12_sum_77 : decode cX12_sum 77 = .ok (.iload_n 1, 1) := by decide +kernel
theorem dX12_sum_78 : decode cX12_sum 78 = .ok (.ireturn, 1) := by decide +kernel
theorem dX12_product_0 : decode cX12_product 0 = .ok (.aload_n 0, 1) := by decide +kernel
theorem dX12_product_1 : decode cX12_product 1 = .ok (.invokevirtual 194, 3) := by decide +kernel
theorem dX12_product_4 : decode cX12_product 4 = .ok (.istore_n 1, 1) := by decide +kernel
theorem dX12_product_5 : decode cX12_product 5 = .ok (.aload_n 0, 1) := by decide +kernel
theorem dX12_product_6 : decode cX12_product 6 = .ok (.getfield 183, 3) := by decide +kernel
theorem dX12_product_9 : decode cX12_product 9 = .ok (.ifCond .ne 109, 3) := by decide +kernel
theorem dX12_product_12 : decode cX12_product 12 = .ok (.aload_n 0, 1) := by decide +kernel
theorem dX12_product_13 : decode cX12_product 13 = .ok (.invokevirtual 187, 3) := by decide +kernel
theorem dX12_product_16 : decode cX12_product 16 = .ok (.bipush 42, 2) := by decide +kernel
theorem dX12_product_18 : decode cX12_product 18 = .ok (.if_icmp .eq 21, 3) := by decide +kernel
theorem dX12_product_21 : decode cX12_product 21 = .ok (.aload_n 0, 1) := by decide +kernel
theorem dX12_product_22 : decode cX12_product 22 = .ok (.invokevirtual 187, 3) := by decide +kernel
theorem dX12_product_25 : decode cX12_product 25 = .ok (.bipush 47, 2) := by decide +kernel
theorem dX12_product_27 : decode cX12_product 27 = .ok (.if_icmp .eq 12, 3) := by decide +kernel
theorem dX12_product_30 : decode cX12_product 30 = .ok (.aload_n 0, 1) := by decide +kernel
theorem dX12_product_31 : decode cX12_product 31 = .ok (.invokevirtual 187, 3) := by decide +kernel
theorem dX12_product_34 : decode cX12_product 34 = .ok (.bipush 37, 2) := by decide +kernel
theorem dX12_product_36 : decode cX12_product 36 = .ok (.if_icmp .ne 82, 3) := by decide +kernel
theorem dX12_product_39 : decode cX12_product 39 = .ok (.aload_n 0, 1) := by decide +kernel
theorem dX12_product_40 : decode cX12_product 40 = .ok (.invokevirtual 187, 3) := by decide +kernel
theorem dX12_product_43 : decode cX12_product 43 = .ok (.istore_n 2, 1) := by decide +kernel
theorem dX12_product_44 : decode cX12_product 44 = .ok (.aload_n 0, 1) := by decide +kernel
theorem dX12_product_45 : decode cX12_product 45 = .ok (.dup, 1) := by decide +kernel
theorem dX12_product_46 : decode cX12_product 46 = .ok (.getfield 177, 3) := by decide +kernel
theorem dX12_product_49 : decode cX12_product 49 = .ok (.iconst 1, 1) := by decide +kernel
theorem dX12_product_50 : decode cX12_product 50 = .ok (.iadd, 1) := by decide +kernel
theorem dX12_product_51 : decode cX12_product 51 = .ok (.putfield 177, 3) := by decide +kernel
theorem dX12_product_54 : decode cX12_product 54 = .ok (.aload_n 0, 1) := by decide +kernel
theorem dX12_product_55 : decode cX12_product 55 = .ok (.invokevirtual 194, 3) := by decide +kernel
theorem dX12_product_58 : decode cX12_product 58 = .ok (.istore_n 3, 1) := by decide +kernel
theorem dX12_product_59 : decode cX12_product 59 = .ok (.iload_n 2, 1) := by decide +kernel
theorem dX12_product_60 : decode cX12_product 60 = .ok (.bipush 42, 2) := by decide +kernel
theorem dX12_product_62 : decode cX12_product 62 = .ok (.if_icmp .ne 9, 3) := by decide +kernel
theorem dX12_product_65 : decode cX12_product 65 = .ok (.iload_n 1, 1) := by decide +kernel
theorem dX12_product_66 : decode cX12_product 66 = .ok (.iload_n 3, 1) := by decide +kernel
theorem dX12_product_67 : decode cX12_product 67 = .ok (.imul, 1) := by decide +kernel
theorem dX12_product_68 : decode cX12_product 68 = .ok (.goto 46, 3) := by decide +kernel
theorem dX12_product_71 : decode cX12_product 71 = .ok (.iload_n 3, 1) := by decide +kernel
theorem dX12_product_72 : decode cX12_product 72 = .ok (.ifCond .ne 7, 3) := by decide +kernel
theorem dX12_product_75 : decode cX12_product 75 = .ok (.iconst 0, 1) := by decide +kernel
theorem dX12_product_76 : decode cX12_product 76 = .ok (.goto 38, 3) := by decide +kernel
theorem dX12_product_79 : decode cX12_product 79 = .ok (.iload_n 3, 1) := by decide +kernel
theorem dX12_product_80 : decode cX12_product 80 = .ok (.iconst (-1), 1) := by decide +kernel
theorem dX12_product_81 : decode cX12_product 81 = .ok (.if_icmp .ne 18, 3) := by decide +kernel
theorem dX12_product_84 : decode cX12_product 84 = .ok (.iload_n 2, 1) := by decide +kernel
theorem dX12_product_85 : decode cX12_product 85 = .ok (.bipush 47, 2) := by decide +kernel
theorem dX12_product_87 : decode cX12_product 87 = .ok (.if_icmp .ne 8, 3) := by decide +kernel
theorem dX12_product_90 : decode cX12_product 90 = .ok (.iload_n 1, 1) := by decide +kernel
theorem dX12_product_91 : decode cX12_product 91 = .ok (.ineg, 1) := by decide +kernel
theorem dX12_product_92 : decode cX12_product 92 = .ok (.goto 22, 3) := by decide +kernel
theorem dX12_product_95 : decode cX12_product 95 = .ok (.iconst 0, 1) := by decide +kernel
theorem dX12_product_96 : decode cX12_product 96 = .ok (.goto 18, 3) := by decide +kernel
theorem dX12_product_99 : decode cX12_product 99 = .ok (.iload_n 2, 1) := by decide +kernel
theorem dX12_product_100 : decode cX12_product 100 = .ok (.bipush 47, 2) := by decide +kernel
theorem dX12_product_102 : decode cX12_product 102 = .ok (.if_icmp .ne 9, 3) := by decide +kernel
theorem dX12_product_105 : decode cX12_product 105 = .ok (.iload_n 1, 1) := by decide +kernel
theorem dX12_product_106 : decode cX12_product 106 = .ok (.iload_n 3, 1) := by decide +kernel
theorem dX12_product_107 : decode cX12_product 107 = .ok (.idiv, 1) := by decide +kernel
theorem dX12_product_108 : decode cX12_product 108 = .ok (.goto 6, 3) := by decide +kernel
theorem dX12_product_111 : decode cX12_product 111 = .ok (.iload_n 1, 1) := by decide +kernel
theorem dX12_product_112 : decode cX12_product 112 = .ok (.iload_n 3, 1) := by decide +kernel
theorem dX12_product_113 : decode cX12_product 113 = .ok (.irem, 1) := by decide +kernel
theorem dX12_product_114 : decode cX12_product 114 = .ok (.istore_n 1, 1) := by decide +kernel
theorem dX12_product_115 : decode cX12_product 115 = .ok (.goto (-110), 3) := by decide +kernel
theorem dX12_product_118 : decode cX12_product 118 = .ok (.iload_n 1, 1) := by decide +kernel
theorem dX12_product_119 : decode cX12_product 119 = .ok (.ireturn, 1) := by decide +kernel
theorem dX12_one_0 : decode cX12_one 0 = .ok (.aload_n 0, 1) := by decide +kernel
theorem dX12_one_1 : decode cX12_one 1 = .ok (.invokevirtual 187, 3) := by decide +kernel
theorem dX12_one_4 : decode cX12_one 4 = .ok (.istore_n 1, 1) := by decide +kernel
theorem dX12_one_5 : decode cX12_one 5 = .ok (.aload_n 0, 1) := by decide +kernel
theorem dX12_one_6 : decode cX12_one 6 = .ok (.getfield 183, 3) := by decide +kernel
theorem dX12_one_9 : decode cX12_one 9 = .ok (.ifCond .eq 5, 3) := by decide +kernel
theorem dX12_one_12 : decode cX12_one 12 = .ok (.iconst 0, 1) := by decide +kernel
theorem dX12_one_13 : decode cX12_one 13 = .ok (.ireturn, 1) := by decide +kernel
theorem dX12_one_14 : decode cX12_one 14 = .ok (.iload_n 1, 1) := by decide +kernel
theorem dX12_one_15 : decode cX12_one 15 = .ok (.bipush 48, 2) := by decide +kernel
theorem dX12_one_17 : decode cX12_one 17 = .ok (.bipush 57, 2) := by decide +kernel
theorem dX12_one_19 : decode cX12_one 19 = .ok (.invokestatic 136, 3) := by decide +kernel
theorem dX12_one_22 : decode cX12_one 22 = .ok (.ifCond .eq 57, 3) := by decide +kernel
theorem dX12_one_25 : decode cX12_one 25 = .ok (.iconst 0, 1) := by decide +kernel
theorem dX12_one_26 : decode cX12_one 26 = .ok (.istore_n 2, 1) := by decide +kernel
theorem dX12_one_27 : decode cX12_one 27 = .ok (.iconst 0, 1) := by decide +kernel
theorem dX12_one_28 : decode cX12_one 28 = .ok (.istore_n 3, 1) := by decide +kernel
theorem dX12_one_29 : decode cX12_one 29 = .ok (.iload_n 3, 1) := by decide +kernel
theorem dX12_one_30 : decode cX12_one 30 = .ok (.iconst 3, 1) := by decide +kernel
theorem dX12_one_31 : decode cX12_one 31 = .ok (.if_icmp .ge 46, 3) := by decide +kernel
theorem dX12_one_34 : decode cX12_one 34 = .ok (.aload_n 0, 1) := by decide +kernel
theorem dX12_one_35 : decode cX12_one 35 = .ok (.invokevirtual 187, 3) := by decide +kernel
theorem dX12_one_38 : decode cX12_one 38 = .ok (.bipush 48, 2) := by decide +kernel
theorem dX12_one_40 : decode cX12_one 40 = .ok (.bipush 57, 2) := by decide +kernel
theorem dX12_one_42 : decode cX12_one 42 = .ok (.invokestatic 136, 3) := by decide +kernel
theorem dX12_one_45 : decode cX12_one 45 = .ok (.ifCond .eq 32, 3) := by decide +kernel
theorem dX12_one_48 : decode cX12_one 48 = .ok (.bipush 10, 2) := by decide +kernel
theorem dX12_one_50 : decode cX12_one 50 = .ok (.iload_n 2, 1) := by decide +kernel
theorem dX12_one_51 : decode cX12_one 51 = .ok (.imul, 1) := by decide +kernel
theorem dX12_one_52 : decode cX12_one 52 = .ok (.aload_n 0, 1) := by decide +kernel
theorem dX12_one_53 : decode cX12_one 53 = .ok (.invokevirtual 187, 3) := by decide +kernel
theorem dX12_one_56 : decode cX12_one 56 = .ok (.iadd, 1) := by decide +kernel
theorem dX12_one_57 : decode cX12_one 57 = .ok (.bipush 48, 2) := by decide +kernel
theorem dX12_one_59 : decode cX12_one 59 = .ok (.isub, 1) := by decide +kernel
theorem dX12_one_60 : decode cX12_one 60 = .ok (.istore_n 2, 1) := by decide +kernel
theorem dX12_one_61 : decode cX12_one 61 = .ok (.aload_n 0, 1) := by decide +kernel
theorem dX12_one_62 : decode cX12_one 62 = .ok (.dup, 1) := by decide +kernel
theorem dX12_one_63 : decode cX12_one 63 = .ok (.getfield 177, 3) := by decide +kernel
theorem dX12_one_66 : decode cX12_one 66 = .ok (.iconst 1, 1) := by decide +kernel
theorem dX12_one_67 : decode cX12_one 67 = .ok (.iadd, 1) := by decide +kernel
theorem dX12_one_68 : decode cX12_one 68 = .ok (.putfield 177, 3) := by decide +kernel
theorem dX12_one_71 : decode cX12_one 71 = .ok (.iinc 3 1, 3) := by decide +kernel
theorem dX12_one_74 : decode cX12_one 74 = .ok (.goto (-45), 3) := by decide +kernel
theorem dX12_one_77 : decode cX12_one 77 = .ok (.iload_n 2, 1) := by decide +kernel
theorem dX12_one_78 : decode cX12_one 78 = .ok (.ireturn, 1) := by decide +kernel
theorem dX12_one_79 : decode cX12_one 79 = .ok (.iload_n 1, 1) := by decide +kernel
theorem dX12_one_80 : decode cX12_one 80 = .ok (.bipush 40, 2) := by decide +kernel
theorem dX12_one_82 : decode cX12_one 82 = .ok (.if_icmp .ne 54, 3) := by decide +kernel
theorem dX12_one_85 : decode cX12_one 85 = .ok (.aload_n 0, 1) := by decide +kernel
theorem dX12_one_86 : decode cX12_one 86 = .ok (.getfield 197, 3) := by decide +kernel
theorem dX12_one_89 : decode cX12_one 89 = .ok (.iconst 4, 1) := by decide +kernel
theorem dX12_one_90 : decode cX12_one 90 = .ok (.if_icmp .ge 46, 3) := by decide +kernel
theorem dX12_one_93 : decode cX12_one 93 = .ok (.aload_n 0, 1) := by decide +kernel
theorem dX12_one_94 : decode cX12_one 94 = .ok (.dup, 1) := by decide +kernel
theorem dX12_one_95 : decode cX12_one 95 = .ok (.getfield 197, 3) := by decide +kernel
theorem dX12_one_98 : decode cX12_one 98 = .ok (.iconst 1, 1) := by decide +kernel
theorem dX12_one_99 : decode cX12_one 99 = .ok (.iadd, 1) := by decide +kernel
theorem dX12_one_100 : decode cX12_one 100 = .ok (.putfield 197, 3) := by decide +kernel
theorem dX12_one_103 : decode cX12_one 103 = .ok (.aload_n 0, 1) := by decide +kernel
theorem dX12_one_104 : decode cX12_one 104 = .ok (.dup, 1) := by decide +kernel
theorem dX12_one_105 : decode cX12_one 105 = .ok (.getfield 177, 3) := by decide +kernel
theorem dX12_one_108 : decode cX12_one 108 = .ok (.iconst 1, 1) := by decide +kernel
theorem dX12_one_109 : decode cX12_one 109 = .ok (.iadd, 1) := by decide +kernel
theorem dX12_one_110 : decode cX12_one 110 = .ok (.putfield 177, 3) := by decide +kernel
theorem dX12_one_113 : decode cX12_one 113 = .ok (.aload_n 0, 1) := by decide +kernel
theorem dX12_one_114 : decode cX12_one 114 = .ok (.invokevirtual 200, 3) := by decide +kernel
theorem dX12_one_117 : decode cX12_one 117 = .ok (.istore_n 2, 1) := by decide +kernel
theorem dX12_one_118 : decode cX12_one 118 = .ok (.aload_n 0, 1) := by decide +kernel
theorem dX12_one_119 : decode cX12_one 119 = .ok (.bipush 41, 2) := by decide +kernel
theorem dX12_one_121 : decode cX12_one 121 = .ok (.invokevirtual 203, 3) := by decide +kernel
theorem dX12_one_124 : decode cX12_one 124 = .ok (.aload_n 0, 1) := by decide +kernel
theorem dX12_one_125 : decode cX12_one 125 = .ok (.dup, 1) := by decide +kernel
theorem dX12_one_126 : decode cX12_one 126 = .ok (.getfield 197, 3) := by decide +kernel
theorem dX12_one_129 : decode cX12_one 129 = .ok (.iconst 1, 1) := by decide +kernel
theorem dX12_one_130 : decode cX12_one 130 = .ok (.isub, 1) := by decide +kernel
theorem dX12_one_131 : decode cX12_one 131 = .ok (.putfield 197, 3) := by decide +kernel
theorem dX12_one_134 : decode cX12_one 134 = .ok (.iload_n 2, 1) := by decide +kernel
theorem dX12_one_135 : decode cX12_one 135 = .ok (.ireturn, 1) := by decide +kernel
theorem dX12_one_136 : decode cX12_one 136 = .ok (.iload_n 1, 1) := by decide +kernel
theorem dX12_one_137 : decode cX12_one 137 = .ok (.bipush 110, 2) := by decide +kernel
theorem dX12_one_139 : decode cX12_one 139 = .ok (.if_icmp .eq 21, 3) := by decide +kernel
theorem dX12_one_142 : decode cX12_one 142 = .ok (.iload_n 1, 1) := by decide +kernel
theorem dX12_one_143 : decode cX12_one 143 = .ok (.bipush 117, 2) := by decide +kernel
theorem dX12_one_145 : decode cX12_one 145 = .ok (.if_icmp .eq 15, 3) := by decide +kernel
theorem dX12_one_148 : decode cX12_one 148 = .ok (.iload_n 1, 1) := by decide +kernel
theorem dX12_one_149 : decode cX12_one 149 = .ok (.bipush 116, 2) := by decide +kernel
theorem dX12_one_151 : decode cX12_one 151 = .ok (.if_icmp .eq 9, 3) := by decide +kernel
theorem dX12_one_154 : decode cX12_one 154 = .ok (.iload_n 1, 1) := by decide +kernel
theorem dX12_one_155 : decode cX12_one 155 = .ok (.bipush 120, 2) := by decide +kernel
theorem dX12_one_157 : decode cX12_one 157 = .ok (.if_icmp .ne 57, 3) := by decide +kernel
theorem dX12_one_160 : decode cX12_one 160 = .ok (.aload_n 0, 1) := by decide +kernel
theorem dX12_one_161 : decode cX12_one 161 = .ok (.dup, 1) := by decide +kernel
theorem dX12_one_162 : decode cX12_one 162 = .ok (.getfield 177, 3) := by decide +kernel
theorem dX12_one_165 : decode cX12_one 165 = .ok (.iconst 1, 1) := by decide +kernel
theorem dX12_one_166 : decode cX12_one 166 = .ok (.iadd, 1) := by decide +kernel
theorem dX12_one_167 : decode cX12_one 167 = .ok (.putfield 177, 3) := by decide +kernel
theorem dX12_one_170 : decode cX12_one 170 = .ok (.iload_n 1, 1) := by decide +kernel
theorem dX12_one_171 : decode cX12_one 171 = .ok (.bipush 110, 2) := by decide +kernel
theorem dX12_one_173 : decode cX12_one 173 = .ok (.if_icmp .ne 10, 3) := by decide +kernel
theorem dX12_one_176 : decode cX12_one 176 = .ok (.aload_n 0, 1) := by decide +kernel
theorem dX12_one_177 : decode cX12_one 177 = .ok (.getfield 206, 3) := by decide +kernel
theorem dX12_one_180 : decode cX12_one 180 = .ok (.goto 33, 3) := by decide +kernel
theorem dX12_one_183 : decode cX12_one 183 = .ok (.iload_n 1, 1) := by decide +kernel
theorem dX12_one_184 : decode cX12_one 184 = .ok (.bipush 117, 2) := by decide +kernel
theorem dX12_one_186 : decode cX12_one 186 = .ok (.if_icmp .ne 10, 3) := by decide +kernel
theorem dX12_one_189 : decode cX12_one 189 = .ok (.aload_n 0, 1) := by decide +kernel
theorem dX12_one_190 : decode cX12_one 190 = .ok (.getfield 209, 3) := by decide +kernel
theorem dX12_one_193 : decode cX12_one 193 = .ok (.goto 20, 3) := by decide +kernel
theorem dX12_one_196 : decode cX12_one 196 = .ok (.iload_n 1, 1) := by decide +kernel
theorem dX12_one_197 : decode cX12_one 197 = .ok (.bipush 116, 2) := by decide +kernel
theorem dX12_one_199 : decode cX12_one 199 = .ok (.if_icmp .ne 10, 3) := by decide +kernel
theorem dX12_one_202 : decode cX12_one 202 = .ok (.aload_n 0, 1) := by decide +kernel
theorem dX12_one_203 : decode cX12_one 203 = .ok (.getfield 212, 3) := by decide +kernel
theorem dX12_one_206 : decode cX12_one 206 = .ok (.goto 7, 3) := by decide +kernel
theorem dX12_one_209 : decode cX12_one 209 = .ok (.aload_n 0, 1) := by decide +kernel
theorem dX12_one_210 : decode cX12_one 210 = .ok (.getfield 215, 3) := by decide +kernel
theorem dX12_one_213 : decode cX12_one 213 = .ok (.ireturn, 1) := by decide +kernel
theorem dX12_one_214 : decode cX12_one 214 = .ok (.aload_n 0, 1) := by decide +kernel
theorem dX12_one_215 : decode cX12_one 215 = .ok (.iconst 1, 1) := by decide +kernel
theorem dX12_one_216 : decode cX12_one 216 = .ok (.putfield 183, 3) := by decide +kernel
theorem dX12_one_219 : decode cX12_one 219 = .ok (.iconst 0, 1) := by decide +kernel
theorem dX12_one_220 : decode cX12_one 220 = .ok (.ireturn, 1) := by decide +kernel
theorem dX12_held_0 : decode cX12_held 0 = .ok (.iload_n 0, 1) := by decide +kernel
theorem dX12_held_1 : decode cX12_held 1 = .ok (.iconst 1, 1) := by decide +kernel
theorem dX12_held_2 : decode cX12_held 2 = .ok (.if_icmp .ge 7, 3) := by decide +kernel
theorem dX12_held_5 : decode cX12_held 5 = .ok (.iconst 1, 1) := by decide +kernel
theorem dX12_held_6 : decode cX12_held 6 = .ok (.goto 13, 3) := by decide +kernel
theorem dX12_held_9 : decode cX12_held 9 = .ok (.iload_n 0, 1) := by decide +kernel
theorem dX12_held_10 : decode cX12_held 10 = .ok (.iconst 4, 1) := by decide +kernel
theorem dX12_held_11 : decode cX12_held 11 = .ok (.if_icmp .le 7, 3) := by decide +kernel
theorem dX12_held_14 : decode cX12_held 14 = .ok (.iconst 4, 1) := by decide +kernel
theorem dX12_held_15 : decode cX12_held 15 = .ok (.goto 4, 3) := by decide +kernel
theorem dX12_held_18 : decode cX12_held 18 = .ok (.iload_n 0, 1) := by decide +kernel
theorem dX12_held_19 : decode cX12_held 19 = .ok (.ireturn, 1) := by decide +kernel
theorem dX12_reads_0 : decode cX12_reads 0 = .ok (.aload_n 0, 1) := by decide +kernel
theorem dX12_reads_1 : decode cX12_reads 1 = .ok (.iload_n 1, 1) := by decide +kernel
theorem dX12_reads_2 : decode cX12_reads 2 = .ok (.putfield 180, 3) := by decide +kernel
theorem dX12_reads_5 : decode cX12_reads 5 = .ok (.aload_n 0, 1) := by decide +kernel
theorem dX12_reads_6 : decode cX12_reads 6 = .ok (.iconst 0, 1) := by decide +kernel
theorem dX12_reads_7 : decode cX12_reads 7 = .ok (.putfield 177, 3) := by decide +kernel
theorem dX12_reads_10 : decode cX12_reads 10 = .ok (.aload_n 0, 1) := by decide +kernel
theorem dX12_reads_11 : decode cX12_reads 11 = .ok (.iconst 0, 1) := by decide +kernel
theorem dX12_reads_12 : decode cX12_reads 12 = .ok (.putfield 197, 3) := by decide +kernel
theorem dX12_reads_15 : decode cX12_reads 15 = .ok (.aload_n 0, 1) := by decide +kernel
theorem dX12_reads_16 : decode cX12_reads 16 = .ok (.iconst 0, 1) := by decide +kernel
theorem dX12_reads_17 : decode cX12_reads 17 = .ok (.putfield 183, 3) := by decide +kernel
theorem dX12_reads_20 : decode cX12_reads 20 = .ok (.aload_n 0, 1) := by decide +kernel
theorem dX12_reads_21 : decode cX12_reads 21 = .ok (.getfield 38, 3) := by decide +kernel
theorem dX12_reads_24 : decode cX12_reads 24 = .ok (.iload_n 1, 1) := by decide +kernel
theorem dX12_reads_25 : decode cX12_reads 25 = .ok (.iconst 2, 1) := by decide +kernel
theorem dX12_reads_26 : decode cX12_reads 26 = .ok (.iastore, 1) := by decide +kernel
theorem dX12_reads_27 : decode cX12_reads 27 = .ok (.aload_n 0, 1) := by decide +kernel
theorem dX12_reads_28 : decode cX12_reads 28 = .ok (.getfield 41, 3) := by decide +kernel
theorem dX12_reads_31 : decode cX12_reads 31 = .ok (.iload_n 1, 1) := by decide +kernel
theorem dX12_reads_32 : decode cX12_reads 32 = .ok (.iconst 1, 1) := by decide +kernel
theorem dX12_reads_33 : decode cX12_reads 33 = .ok (.iastore, 1) := by decide +kernel
theorem dX12_reads_34 : decode cX12_reads 34 = .ok (.aload_n 0, 1) := by decide +kernel
theorem dX12_reads_35 : decode cX12_reads 35 = .ok (.getfield 44, 3) := by decide +kernel
theorem dX12_reads_38 : decode cX12_reads 38 = .ok (.iload_n 1, 1) := by decide +kernel
theorem dX12_reads_39 : decode cX12_reads 39 = .ok (.iconst 0, 1) := by decide +kernel
theorem dX12_reads_40 : decode cX12_reads 40 = .ok (.iastore, 1) := by decide +kernel
theorem dX12_reads_41 : decode cX12_reads 41 = .ok (.iconst 0, 1) := by decide +kernel
theorem dX12_reads_42 : decode cX12_reads 42 = .ok (.istore_n 2, 1) := by decide +kernel
theorem dX12_reads_43 : decode cX12_reads 43 = .ok (.iconst 1, 1) := by decide +kernel
theorem dX12_reads_44 : decode cX12_reads 44 = .ok (.istore_n 3, 1) := by decide +kernel
theorem dX12_reads_45 : decode cX12_reads 45 = .ok (.iload_n 3, 1) := by decide +kernel
theorem dX12_reads_46 : decode cX12_reads 46 = .ok (.ifCond .eq 272, 3) := by decide +kernel
theorem dX12_reads_49 : decode cX12_reads 49 = .ok (.aload_n 0, 1) := by decide +kernel
theorem dX12_reads_50 : decode cX12_reads 50 = .ok (.invokevirtual 187, 3) := by decide +kernel
theorem dX12_reads_53 : decode cX12_reads 53 = .ok (.istore 4, 2) := by decide +kernel
theorem dX12_reads_55 : decode cX12_reads 55 = .ok (.iload 4, 2) := by decide +kernel
theorem dX12_reads_57 : decode cX12_reads 57 = .ok (.bipush 99, 2) := by decide +kernel
theorem dX12_reads_59 : decode cX12_reads 59 = .ok (.if_icmp .ne 7, 3) := by decide +kernel
theorem dX12_reads_62 : decode cX12_reads 62 = .ok (.iconst 1, 1) := by decide +kernel
theorem dX12_reads_63 : decode cX12_reads 63 = .ok (.goto 26, 3) := by decide +kernel
theorem dX12_reads_66 : decode cX12_reads 66 = .ok (.iload 4, 2) := by decide +kernel
theorem dX12_reads_68 : decode cX12_reads 68 = .ok (.bipush 115, 2) := by decide +kernel
theorem dX12_reads_70 : decode cX12_reads 70 = .ok (.if_icmp .ne 7, 3) := by decide +kernel
theorem dX12_reads_73 : decode cX12_reads 73 = .ok (.iconst 2, 1) := by decide +kernel
theorem dX12_reads_74 : decode cX12_reads 74 = .ok (.goto 15, 3) := by decide +kernel
theorem dX12_reads_77 : decode cX12_reads 77 = .ok (.iload 4, 2) := by decide +kernel
theorem dX12_reads_79 : decode cX12_reads 79 = .ok (.bipush 112, 2) := by decide +kernel
theorem dX12_reads_81 : decode cX12_reads 81 = .ok (.if_icmp .ne 7, 3) := by decide +kernel
theorem dX12_reads_84 : decode cX12_reads 84 = .ok (.iconst 4, 1) := by decide +kernel
theorem dX12_reads_85 : decode cX12_reads 85 = .ok (.goto 4, 3) := by decide +kernel
theorem dX12_reads_88 : decode cX12_reads 88 = .ok (.iconst 0, 1) := by decide +kernel
theorem dX12_reads_89 : decode cX12_reads 89 = .ok (.istore 5, 2) := by decide +kernel
theorem dX12_reads_91 : decode cX12_reads 91 = .ok (.aload_n 0, 1) := by decide +kernel
theorem dX12_reads_92 : decode cX12_reads 92 = .ok (.iload 5, 2) := by decide +kernel
theorem dX12_reads_94 : decode cX12_reads 94 = .ok (.ifCond .eq 10, 3) := by decide +kernel
theorem dX12_reads_97 : decode cX12_reads 97 = .ok (.iload_n 2, 1) := by decide +kernel
theorem dX12_reads_98 : decode cX12_reads 98 = .ok (.iload 5, 2) := by decide +kernel
theorem dX12_reads_100 : decode cX12_reads 100 = .ok (.iand, 1) := by decide +kernel
theorem dX12_reads_101 : decode cX12_reads 101 = .ok (.ifCond .eq 7, 3) := by decide +kernel
theorem dX12_reads_104 : decode cX12_reads 104 = .ok (.iconst 1, 1) := by decide +kernel
theorem dX12_reads_105 : decode cX12_reads 105 = .ok (.goto 4, 3) := by decide +kernel
theorem dX12_reads_108 : decode cX12_reads 108 = .ok (.iconst 0, 1) := by decide +kernel
theorem dX12_reads_109 : decode cX12_reads 109 = .ok (.putfield 183, 3) := by decide +kernel
theorem dX12_reads_112 : decode cX12_reads 112 = .ok (.iload_n 2, 1) := by decide +kernel
theorem dX12_reads_113 : decode cX12_reads 113 = .ok (.iload 5, 2) := by decide +kernel
theorem dX12_reads_115 : decode cX12_reads 115 = .ok (.ior, 1) := by decide +kernel
theorem dX12_reads_116 : decode cX12_reads 116 = .ok (.istore_n 2, 1) := by decide +kernel
theorem dX12_reads_117 : decode cX12_reads 117 = .ok (.aload_n 0, 1) := by decide +kernel
theorem dX12_reads_118 : decode cX12_reads 118 = .ok (.iload 4, 2) := by decide +kernel
theorem dX12_reads_120 : decode cX12_reads 120 = .ok (.invokevirtual 203, 3) := by decide +kernel
theorem dX12_reads_123 : decode cX12_reads 123 = .ok (.aload_n 0, 1) := by decide +kernel
theorem dX12_reads_124 : decode cX12_reads 124 = .ok (.bipush 32, 2) := by decide +kernel
theorem dX12_reads_126 : decode cX12_reads 126 = .ok (.invokevirtual 203, 3) := by decide +kernel
theorem dX12_reads_129 : decode cX12_reads 129 = .ok (.iload 5, 2) := by decide +kernel
theorem dX12_reads_131 : decode cX12_reads 131 = .ok (.iconst 4, 1) := by decide +kernel
theorem dX12_reads_132 : decode cX12_reads 132 = .ok (.if_icmp .ne 81, 3) := by decide +kernel
theorem dX12_reads_135 : decode cX12_reads 135 = .ok (.aload_n 0, 1) := by decide +kernel
theorem dX12_reads_136 : decode cX12_reads 136 = .ok (.aload_n 0, 1) := by decide +kernel
theorem dX12_reads_137 : decode cX12_reads 137 = .ok (.getfield 183, 3) := by decide +kernel
theorem dX12_reads_140 : decode cX12_reads 140 = .ok (.ifCond .ne 17, 3) := by decide +kernel
theorem dX12_reads_143 : decode cX12_reads 143 = .ok (.aload_n 0, 1) := by decide +kernel
theorem dX12_reads_144 : decode cX12_reads 144 = .ok (.invokevirtual 187, 3) := by decide +kernel
theorem dX12_reads_147 : decode cX12_reads 147 = .ok (.bipush 48, 2) := by decide +kernel
theorem dX12_reads_149 : decode cX12_reads 149 = .ok (.bipush 50, 2) := by decide +kernel
theorem dX12_reads_151 : decode cX12_reads 151 = .ok (.invokestatic 136, 3) := by decide +kernel
theorem dX12_reads_154 : decode cX12_reads 154 = .ok (.ifCond .ne 7, 3) := by decide +kernel
theorem dX12_reads_157 : decode cX12_reads 157 = .ok (.iconst 1, 1) := by decide +kernel
theorem dX12_reads_158 : decode cX12_reads 158 = .ok (.goto 4, 3) := by decide +kernel
theorem dX12_reads_161 : decode cX12_reads 161 = .ok (.iconst 0, 1) := by decide +kernel
theorem dX12_reads_162 : decode cX12_reads 162 = .ok (.putfield 183, 3) := by decide +kernel
theorem dX12_reads_165 : decode cX12_reads 165 = .ok (.aload_n 0, 1) := by decide +kernel
theorem dX12_reads_166 : decode cX12_reads 166 = .ok (.getfield 44, 3) := by decide +kernel
theorem dX12_reads_169 : decode cX12_reads 169 = .ok (.iload_n 1, 1) := by decide +kernel
theorem dX12_reads_170 : decode cX12_reads 170 = .ok (.aload_n 0, 1) := by decide +kernel
theorem dX12_reads_171 : decode cX12_reads 171 = .ok (.getfield 183, 3) := by decide +kernel
theorem dX12_reads_174 : decode cX12_reads 174 = .ok (.ifCond .eq 7, 3) := by decide +kernel
theorem dX12_reads_177 : decode cX12_reads 177 = .ok (.iconst 0, 1) := by decide +kernel
theorem dX12_reads_178 : decode cX12_reads 178 = .ok (.goto 10, 3) := by decide +kernel
theorem dX12_reads_181 : decode cX12_reads 181 = .ok (.aload_n 0, 1) := by decide +kernel
theorem dX12_reads_182 : decode cX12_reads 182 = .ok (.invokevirtual 187, 3) := by decide +kernel
theorem dX12_reads_185 : decode cX12_reads 185 = .ok (.bipush 48, 2) := by decide +kernel
theorem dX12_reads_187 : decode cX12_reads 187 = .ok (.isub, 1) := by decide +kernel
theorem dX12_reads_188 : decode cX12_reads 188 = .ok (.iastore, 1) := by decide +kernel
theorem dX12_reads_189 : decode cX12_reads 189 = .ok (.aload_n 0, 1) := by decide +kernel
theorem dX12_reads_190 : decode cX12_reads 190 = .ok (.dup, 1) := by decide +kernel
theorem dX12_reads_191 : decode cX12_reads 191 = .ok (.getfield 177, 3) := by decide +kernel
theorem dX12_reads_194 : decode cX12_reads 194 = .ok (.aload_n 0, 1) := by decide +kernel
theorem dX12_reads_195 : decode cX12_reads 195 = .ok (.getfield 183, 3) := by decide +kernel
theorem dX12_reads_198 : decode cX12_reads 198 = .ok (.ifCond .eq 7, 3) := by decide +kernel
theorem dX12_reads_201 : decode cX12_reads 201 = .ok (.iconst 0, 1) := by decide +kernel
theorem dX12_reads_202 : decode cX12_reads 202 = .ok (.goto 4, 3) := by decide +kernel
theorem dX12_reads_205 : decode cX12_reads 205 = .ok (.iconst 1, 1) := by decide +kernel
theorem dX12_reads_206 : decode cX12_reads 206 = .ok (.iadd, 1) := by decide +kernel
theorem dX12_reads_207 : decode cX12_reads 207 = .ok (.putfield 177, 3) := by decide +kernel
theorem dX12_reads_210 : decode cX12_reads 210 = .ok (.goto 65, 3) := by decide +kernel
theorem dX12_reads_213 : decode cX12_reads 213 = .ok (.aload_n 0, 1) := by decide +kernel
theorem dX12_reads_214 : decode cX12_reads 214 = .ok (.getfield 183, 3) := by decide +kernel
theorem dX12_reads_217 : decode cX12_reads 217 = .ok (.ifCond .ne 58, 3) := by decide +kernel
theorem dX12_reads_220 : decode cX12_reads 220 = .ok (.aload_n 0, 1) := by decide +kernel
theorem dX12_reads_221 : decode cX12_reads 221 = .ok (.invokevirtual 200, 3) := by decide +kernel
theorem dX12_reads_224 : decode cX12_reads 224 = .ok (.invokestatic 218, 3) := by decide +kernel
theorem dX12_reads_227 : decode cX12_reads 227 = .ok (.istore 6, 2) := by decide +kernel
theorem dX12_reads_229 : decode cX12_reads 229 = .ok (.aload_n 0, 1) := by decide +kernel
theorem dX12_reads_230 : decode cX12_reads 230 = .ok (.getfield 38, 3) := by decide +kernel
theorem dX12_reads_233 : decode cX12_reads 233 = .ok (.iload_n 1, 1) := by decide +kernel
theorem dX12_reads_234 : decode cX12_reads 234 = .ok (.iload 5, 2) := by decide +kernel
theorem dX12_reads_236 : decode cX12_reads 236 = .ok (.iconst 1, 1) := by decide +kernel
theorem dX12_reads_237 : decode cX12_reads 237 = .ok (.if_icmp .ne 8, 3) := by decide +kernel
theorem dX12_reads_240 : decode cX12_reads 240 = .ok (.iload 6, 2) := by decide +kernel
theorem dX12_reads_242 : decode cX12_reads 242 = .ok (.goto 9, 3) := by decide +kernel
theorem dX12_reads_245 : decode cX12_reads 245 = .ok (.aload_n 0, 1) := by decide +kernel
theorem dX12_reads_246 : decode cX12_reads 246 = .ok (.getfield 38, 3) := by decide +kernel
theorem dX12_reads_249 : decode cX12_reads 249 = .ok (.iload_n 1, 1) := by decide +kernel
theorem dX12_reads_250 : decode cX12_reads 250 = .ok (.iaload, 1) := by decide +kernel
theorem dX12_reads_251 : decode cX12_reads 251 = .ok (.iastore, 1) := by decide +kernel
theorem dX12_reads_252 : decode cX12_reads 252 = .ok (.aload_n 0, 1) := by decide +kernel
theorem dX12_reads_253 : decode cX12_reads 253 = .ok (.getfield 41, 3) := by decide +kernel
theorem dX12_reads_256 : decode cX12_reads 256 = .ok (.iload_n 1, 1) := by decide +kernel
theorem dX12_reads_257 : decode cX12_reads 257 = .ok (.iload 5, 2) := by decide +kernel
theorem dX12_reads_259 : decode cX12_reads 259 = .ok (.iconst 2, 1) := by decide +kernel
theorem dX12_reads_260 : decode cX12_reads 260 = .ok (.if_icmp .ne 8, 3) := by decide +kernel
theorem dX12_reads_263 : decode cX12_reads 263 = .ok (.iload 6, 2) := by decide +kernel
theorem dX12_reads_265 : decode cX12_reads 265 = .ok (.goto 9, 3) := by decide +kernel
theorem dX12_reads_268 : decode cX12_reads 268 = .ok (.aload_n 0, 1) := by decide +kernel
theorem dX12_reads_269 : decode cX12_reads 269 = .ok (.getfield 41, 3) := by decide +kernel
theorem dX12_reads_272 : decode cX12_reads 272 = .ok (.iload_n 1, 1) := by decide +kernel
theorem dX12_reads_273 : decode cX12_reads 273 = .ok (.iaload, 1) := by decide +kernel
theorem dX12_reads_274 : decode cX12_reads 274 = .ok (.iastore, 1) := by decide +kernel
theorem dX12_reads_275 : decode cX12_reads 275 = .ok (.aload_n 0, 1) := by decide +kernel
theorem dX12_reads_276 : decode cX12_reads 276 = .ok (.getfield 183, 3) := by decide +kernel
theorem dX12_reads_279 : decode cX12_reads 279 = .ok (.ifCond .ne 16, 3) := by decide +kernel
theorem dX12_reads_282 : decode cX12_reads 282 = .ok (.aload_n 0, 1) := by decide +kernel
theorem dX12_reads_283 : decode cX12_reads 283 = .ok (.invokevirtual 187, 3) := by decide +kernel
theorem dX12_reads_286 : decode cX12_reads 286 = .ok (.bipush 59, 2) := by decide +kernel
theorem dX12_reads_288 : decode cX12_reads 288 = .ok (.if_icmp .ne 7, 3) := by decide +kernel
theorem dX12_reads_291 : decode cX12_reads 291 = .ok (.iconst 1, 1) := by decide +kernel
theorem dX12_reads_292 : decode cX12_reads 292 = .ok (.goto 4, 3) := by decide +kernel
theorem dX12_reads_295 : decode cX12_reads 295 = .ok (.iconst 0, 1) := by decide +kernel
theorem dX12_reads_296 : decode cX12_reads 296 = .ok (.istore_n 3, 1) := by decide +kernel
theorem dX12_reads_297 : decode cX12_reads 297 = .ok (.aload_n 0, 1) := by decide +kernel
theorem dX12_reads_298 : decode cX12_reads 298 = .ok (.dup, 1) := by decide +kernel
theorem dX12_reads_299 : decode cX12_reads 299 = .ok (.getfield 177, 3) := by decide +kernel
theorem dX12_reads_302 : decode cX12_reads 302 = .ok (.iload_n 3, 1) := by decide +kernel
theorem dX12_reads_303 : decode cX12_reads 303 = .ok (.ifCond .eq 7, 3) := by decide +kernel
theorem dX12_reads_306 : decode cX12_reads 306 = .ok (.iconst 1, 1) := by decide +kernel
theorem dX12_reads_307 : decode cX12_reads 307 = .ok (.goto 4, 3) := by decide +kernel
theorem dX12_reads_310 : decode cX12_reads 310 = .ok (.iconst 0, 1) := by decide +kernel
theorem dX12_reads_311 : decode cX12_reads 311 = .ok (.iadd, 1) := by decide +kernel
theorem dX12_reads_312 : decode cX12_reads 312 = .ok (.putfield 177, 3) := by decide +kernel
theorem dX12_reads_315 : decode cX12_reads 315 = .ok (.goto (-270), 3) := by decide +kernel
theorem dX12_reads_318 : decode cX12_reads 318 = .ok (.aload_n 0, 1) := by decide +kernel
theorem dX12_reads_319 : decode cX12_reads 319 = .ok (.getfield 183, 3) := by decide +kernel
theorem dX12_reads_322 : decode cX12_reads 322 = .ok (.ifCond .ne 16, 3) := by decide +kernel
theorem dX12_reads_325 : decode cX12_reads 325 = .ok (.aload_n 0, 1) := by decide +kernel
theorem dX12_reads_326 : decode cX12_reads 326 = .ok (.getfield 177, 3) := by decide +kernel
theorem dX12_reads_329 : decode cX12_reads 329 = .ok (.aload_n 0, 1) := by decide +kernel
theorem dX12_reads_330 : decode cX12_reads 330 = .ok (.getfield 47, 3) := by decide +kernel
theorem dX12_reads_333 : decode cX12_reads 333 = .ok (.iload_n 1, 1) := by decide +kernel
theorem dX12_reads_334 : decode cX12_reads 334 = .ok (.iaload, 1) := by decide +kernel
theorem dX12_reads_335 : decode cX12_reads 335 = .ok (.if_icmp .eq 10, 3) := by decide +kernel
theorem dX12_reads_338 : decode cX12_reads 338 = .ok (.aload_n 0, 1) := by decide +kernel
theorem dX12_reads_339 : decode cX12_reads 339 = .ok (.getfield 177, 3) := by decide +kernel
theorem dX12_reads_342 : decode cX12_reads 342 = .ok (.goto 4, 3) := by decide +kernel
theorem dX12_reads_345 : decode cX12_reads 345 = .ok (.iconst (-1), 1) := by decide +kernel
theorem dX12_reads_346 : decode cX12_reads 346 = .ok (.ireturn, 1) := by decide +kernel
theorem dX12_mixed_0 : decode cX12_mixed 0 = .ok (.iload_n 0, 1) := by decide +kernel
theorem dX12_mixed_1 : decode cX12_mixed 1 = .ok (.sipush 7919, 3) := by decide +kernel
theorem dX12_mixed_4 : decode cX12_mixed 4 = .ok (.imul, 1) := by decide +kernel
theorem dX12_mixed_5 : decode cX12_mixed 5 = .ok (.iload_n 1, 1) := by decide +kernel
theorem dX12_mixed_6 : decode cX12_mixed 6 = .ok (.ldc 221, 2) := by decide +kernel
theorem dX12_mixed_8 : decode cX12_mixed 8 = .ok (.imul, 1) := by decide +kernel
theorem dX12_mixed_9 : decode cX12_mixed 9 = .ok (.iadd, 1) := by decide +kernel
theorem dX12_mixed_10 : decode cX12_mixed 10 = .ok (.iload_n 2, 1) := by decide +kernel
theorem dX12_mixed_11 : decode cX12_mixed 11 = .ok (.iadd, 1) := by decide +kernel
theorem dX12_mixed_12 : decode cX12_mixed 12 = .ok (.ldc 222, 2) := by decide +kernel
theorem dX12_mixed_14 : decode cX12_mixed 14 = .ok (.imul, 1) := by decide +kernel
theorem dX12_mixed_15 : decode cX12_mixed 15 = .ok (.sipush 12345, 3) := by decide +kernel
theorem dX12_mixed_18 : decode cX12_mixed 18 = .ok (.iadd, 1) := by decide +kernel
theorem dX12_mixed_19 : decode cX12_mixed 19 = .ok (.bipush 8, 2) := by decide +kernel
theorem dX12_mixed_21 : decode cX12_mixed 21 = .ok (.iushr, 1) := by decide +kernel
theorem dX12_mixed_22 : decode cX12_mixed 22 = .ok (.sipush 1000, 3) := by decide +kernel
theorem dX12_mixed_25 : decode cX12_mixed 25 = .ok (.irem, 1) := by decide +kernel
theorem dX12_mixed_26 : decode cX12_mixed 26 = .ok (.ireturn, 1) := by decide +kernel
theorem dX12_isIn_0 : decode cX12_isIn 0 = .ok (.aload_n 0, 1) := by decide +kernel
theorem dX12_isIn_1 : decode cX12_isIn 1 = .ok (.getfield 32, 3) := by decide +kernel
theorem dX12_isIn_4 : decode cX12_isIn 4 = .ok (.iload_n 1, 1) := by decide +kernel
theorem dX12_isIn_5 : decode cX12_isIn 5 = .ok (.iaload, 1) := by decide +kernel
theorem dX12_isIn_6 : decode cX12_isIn 6 = .ok (.iload_n 2, 1) := by decide +kernel
theorem dX12_isIn_7 : decode cX12_isIn 7 = .ok (.ishr, 1) := by decide +kernel
theorem dX12_isIn_8 : decode cX12_isIn 8 = .ok (.iconst 1, 1) := by decide +kernel
theorem dX12_isIn_9 : decode cX12_isIn 9 = .ok (.iand, 1) := by decide +kernel
theorem dX12_isIn_10 : decode cX12_isIn 10 = .ok (.iconst 1, 1) := by decide +kernel
theorem dX12_isIn_11 : decode cX12_isIn 11 = .ok (.if_icmp .ne 7, 3) := by decide +kernel
theorem dX12_isIn_14 : decode cX12_isIn 14 = .ok (.iconst 1, 1) := by decide +kernel
theorem dX12_isIn_15 : decode cX12_isIn 15 = .ok (.goto 4, 3) := by decide +kernel
theorem dX12_isIn_18 : decode cX12_isIn 18 = .ok (.iconst 0, 1) := by decide +kernel
theorem dX12_isIn_19 : decode cX12_isIn 19 = .ok (.ireturn, 1) := by decide +kernel
theorem dX12_numbers_0 : decode cX12_numbers 0 = .ok (.aload_n 0, 1) := by decide +kernel
theorem dX12_numbers_1 : decode cX12_numbers 1 = .ok (.iconst 0, 1) := by decide +kernel
theorem dX12_numbers_2 : decode cX12_numbers 2 = .ok (.putfield 206, 3) := by decide +kernel
theorem dX12_numbers_5 : decode cX12_numbers 5 = .ok (.aload_n 0, 1) := by decide +kernel
theorem dX12_numbers_6 : decode cX12_numbers 6 = .ok (.iconst 0, 1) := by decide +kernel
theorem dX12_numbers_7 : decode cX12_numbers 7 = .ok (.putfield 209, 3) := by decide +kernel
theorem dX12_numbers_10 : decode cX12_numbers 10 = .ok (.aload_n 0, 1) := by decide +kernel
theorem dX12_numbers_11 : decode cX12_numbers 11 = .ok (.iconst 0, 1) := by decide +kernel
theorem dX12_numbers_12 : decode cX12_numbers 12 = .ok (.putfield 212, 3) := by decide +kernel
theorem dX12_numbers_15 : decode cX12_numbers 15 = .ok (.aload_n 0, 1) := by decide +kernel
theorem dX12_numbers_16 : decode cX12_numbers 16 = .ok (.iconst 0, 1) := by decide +kernel
theorem dX12_numbers_17 : decode cX12_numbers 17 = .ok (.putfield 215, 3) := by decide +kernel
theorem dX12_numbers_20 : decode cX12_numbers 20 = .ok (.iconst 0, 1) := by decide +kernel
theorem dX12_numbers_21 : decode cX12_numbers 21 = .ok (.istore_n 2, 1) := by decide +kernel
theorem dX12_numbers_22 : decode cX12_numbers 22 = .ok (.iconst 0, 1) := by decide +kernel
theorem dX12_numbers_23 : decode cX12_numbers 23 = .ok (.istore_n 3, 1) := by decide +kernel
theorem dX12_numbers_24 : decode cX12_numbers 24 = .ok (.iload_n 3, 1) := by decide +kernel
theorem dX12_numbers_25 : decode cX12_numbers 25 = .ok (.aload_n 0, 1) := by decide +kernel
theorem dX12_numbers_26 : decode cX12_numbers 26 = .ok (.getfield 140, 3) := by decide +kernel
theorem dX12_numbers_29 : decode cX12_numbers 29 = .ok (.if_icmp .ge 122, 3) := by decide +kernel
theorem dX12_numbers_32 : decode cX12_numbers 32 = .ok (.aload_n 0, 1) := by decide +kernel
theorem dX12_numbers_33 : decode cX12_numbers 33 = .ok (.iload_n 1, 1) := by decide +kernel
theorem dX12_numbers_34 : decode cX12_numbers 34 = .ok (.iload_n 3, 1) := by decide +kernel
theorem dX12_numbers_35 : decode cX12_numbers 35 = .ok (.invokevirtual 223, 3) := by decide +kernel
theorem dX12_numbers_38 : decode cX12_numbers 38 = .ok (.ifCond .eq 107, 3) := by decide +kernel
theorem dX12_numbers_41 : decode cX12_numbers 41 = .ok (.aload_n 0, 1) := by decide +kernel
theorem dX12_numbers_42 : decode cX12_numbers 42 = .ok (.getfield 53, 3) := by decide +kernel
theorem dX12_numbers_45 : decode cX12_numbers 45 = .ok (.bipush 12, 2) := by decide +kernel
theorem dX12_numbers_47 : decode cX12_numbers 47 = .ok (.iload_n 1, 1) := by decide +kernel
theorem dX12_numbers_48 : decode cX12_numbers 48 = .ok (.imul, 1) := by decide +kernel
theorem dX12_numbers_49 : decode cX12_numbers 49 = .ok (.iload_n 3, 1) := by decide +kernel
theorem dX12_numbers_50 : decode cX12_numbers 50 = .ok (.iadd, 1) := by decide +kernel
theorem dX12_numbers_51 : decode cX12_numbers 51 = .ok (.iaload, 1) := by decide +kernel
theorem dX12_numbers_52 : decode cX12_numbers 52 = .ok (.istore 4, 2) := by decide +kernel
theorem dX12_numbers_54 : decode cX12_numbers 54 = .ok (.aload_n 0, 1) := by decide +kernel
theorem dX12_numbers_55 : decode cX12_numbers 55 = .ok (.dup, 1) := by decide +kernel
theorem dX12_numbers_56 : decode cX12_numbers 56 = .ok (.getfield 206, 3) := by decide +kernel
theorem dX12_numbers_59 : decode cX12_numbers 59 = .ok (.iconst 1, 1) := by decide +kernel
theorem dX12_numbers_60 : decode cX12_numbers 60 = .ok (.iadd, 1) := by decide +kernel
theorem dX12_numbers_61 : decode cX12_numbers 61 = .ok (.putfield 206, 3) := by decide +kernel
theorem dX12_numbers_64 : decode cX12_numbers 64 = .ok (.aload_n 0, 1) := by decide +kernel
theorem dX12_numbers_65 : decode cX12_numbers 65 = .ok (.dup, 1) := by decide +kernel
theorem dX12_numbers_66 : decode cX12_numbers 66 = .ok (.getfield 209, 3) := by decide +kernel
theorem dX12_numbers_69 : decode cX12_numbers 69 = .ok (.iload_n 2, 1) := by decide +kernel
theorem dX12_numbers_70 : decode cX12_numbers 70 = .ok (.aload_n 0, 1) := by decide +kernel
theorem dX12_numbers_71 : decode cX12_numbers 71 = .ok (.getfield 56, 3) := by decide +kernel
theorem dX12_numbers_74 : decode cX12_numbers 74 = .ok (.bipush 12, 2) := by decide +kernel
theorem dX12_numbers_76 : decode cX12_numbers 76 = .ok (.iload_n 1, 1) := by decide +kernel
theorem dX12_numbers_77 : decode cX12_numbers 77 = .ok (.imul, 1) := by decide +kernel
theorem dX12_numbers_78 : decode cX12_numbers 78 = .ok (.iload_n 3, 1) := by decide +kernel
theorem dX12_numbers_79 : decode cX12_numbers 79 = .ok (.iadd, 1) := by decide +kernel
theorem dX12_numbers_80 : decode cX12_numbers 80 = .ok (.iaload, 1) := by decide +kernel
theorem dX12_numbers_81 : decode cX12_numbers 81 = .ok (.ishr, 1) := by decide +kernel
theorem dX12_numbers_82 : decode cX12_numbers 82 = .ok (.iconst 1, 1) := by decide +kernel
theorem dX12_numbers_83 : decode cX12_numbers 83 = .ok (.iand, 1) := by decide +kernel
theorem dX12_numbers_84 : decode cX12_numbers 84 = .ok (.ifCond .ne 7, 3) := by decide +kernel
theorem dX12_numbers_87 : decode cX12_numbers 87 = .ok (.iconst 1, 1) := by decide +kernel
theorem dX12_numbers_88 : decode cX12_numbers 88 = .ok (.goto 4, 3) := by decide +kernel
theorem dX12_numbers_91 : decode cX12_numbers 91 = .ok (.iconst 0, 1) := by decide +kernel
theorem dX12_numbers_92 : decode cX12_numbers 92 = .ok (.iadd, 1) := by decide +kernel
theorem dX12_numbers_93 : decode cX12_numbers 93 = .ok (.putfield 209, 3) := by decide +kernel
theorem dX12_numbers_96 : decode cX12_numbers 96 = .ok (.iload_n 2, 1) := by decide +kernel
theorem dX12_numbers_97 : decode cX12_numbers 97 = .ok (.iconst 1, 1) := by decide +kernel
theorem dX12_numbers_98 : decode cX12_numbers 98 = .ok (.aload_n 0, 1) := by decide +kernel
theorem dX12_numbers_99 : decode cX12_numbers 99 = .ok (.getfield 56, 3) := by decide +kernel
theorem dX12_numbers_102 : decode cX12_numbers 102 = .ok (.bipush 12, 2) := by decide +kernel
theorem dX12_numbers_104 : decode cX12_numbers 104 = .ok (.iload_n 1, 1) := by decide +kernel
theorem dX12_numbers_105 : decode cX12_numbers 105 = .ok (.imul, 1) := by decide +kernel
theorem dX12_numbers_106 : decode cX12_numbers 106 = .ok (.iload_n 3, 1) := by decide +kernel
theorem dX12_numbers_107 : decode cX12_numbers 107 = .ok (.iadd, 1) := by decide +kernel
theorem dX12_numbers_108 : decode cX12_numbers 108 = .ok (.iaload, 1) := by decide +kernel
theorem dX12_numbers_109 : decode cX12_numbers 109 = .ok (.ishl, 1) := by decide +kernel
theorem dX12_numbers_110 : decode cX12_numbers 110 = .ok (.ior, 1) := by decide +kernel
theorem dX12_numbers_111 : decode cX12_numbers 111 = .ok (.istore_n 2, 1) := by decide +kernel
theorem dX12_numbers_112 : decode cX12_numbers 112 = .ok (.aload_n 0, 1) := by decide +kernel
theorem dX12_numbers_113 : decode cX12_numbers 113 = .ok (.dup, 1) := by decide +kernel
theorem dX12_numbers_114 : decode cX12_numbers 114 = .ok (.getfield 212, 3) := by decide +kernel
theorem dX12_numbers_117 : decode cX12_numbers 117 = .ok (.iload 4, 2) := by decide +kernel
theorem dX12_numbers_119 : decode cX12_numbers 119 = .ok (.iadd, 1) := by decide +kernel
theorem dX12_numbers_120 : decode cX12_numbers 120 = .ok (.putfield 212, 3) := by decide +kernel
theorem dX12_numbers_123 : decode cX12_numbers 123 = .ok (.aload_n 0, 1) := by decide +kernel
theorem dX12_numbers_124 : decode cX12_numbers 124 = .ok (.iload 4, 2) := by decide +kernel
theorem dX12_numbers_126 : decode cX12_numbers 126 = .ok (.aload_n 0, 1) := by decide +kernel
theorem dX12_numbers_127 : decode cX12_numbers 127 = .ok (.getfield 215, 3) := by decide +kernel
theorem dX12_numbers_130 : decode cX12_numbers 130 = .ok (.if_icmp .le 8, 3) := by decide +kernel
theorem dX12_numbers_133 : decode cX12_numbers 133 = .ok (.iload 4, 2) := by decide +kernel
theorem dX12_numbers_135 : decode cX12_numbers 135 = .ok (.goto 7, 3) := by decide +kernel
theorem dX12_numbers_138 : decode cX12_numbers 138 = .ok (.aload_n 0, 1) := by decide +kernel
theorem dX12_numbers_139 : decode cX12_numbers 139 = .ok (.getfield 215, 3) := by decide +kernel
theorem dX12_numbers_142 : decode cX12_numbers 142 = .ok (.putfield 215, 3) := by decide +kernel
theorem dX12_numbers_145 : decode cX12_numbers 145 = .ok (.iinc 3 1, 3) := by decide +kernel
theorem dX12_numbers_148 : decode cX12_numbers 148 = .ok (.goto (-124), 3) := by decide +kernel
theorem dX12_numbers_151 : decode cX12_numbers 151 = .ok (.return_, 1) := by decide +kernel
theorem dX12_sits_0 : decode cX12_sits 0 = .ok (.iconst 0, 1) := by decide +kernel
theorem dX12_sits_1 : decode cX12_sits 1 = .ok (.istore_n 2, 1) := by decide +kernel
theorem dX12_sits_2 : decode cX12_sits 2 = .ok (.iload_n 2, 1) := by decide +kernel
theorem dX12_sits_3 : decode cX12_sits 3 = .ok (.sipush 1000, 3) := by decide +kernel
theorem dX12_sits_6 : decode cX12_sits 6 = .ok (.if_icmp .ge 22, 3) := by decide +kernel
theorem dX12_sits_9 : decode cX12_sits 9 = .ok (.aload_n 0, 1) := by decide +kernel
theorem dX12_sits_10 : decode cX12_sits 10 = .ok (.getfield 62, 3) := by decide +kernel
theorem dX12_sits_13 : decode cX12_sits 13 = .ok (.sipush 1000, 3) := by decide +kernel
theorem dX12_sits_16 : decode cX12_sits 16 = .ok (.iload_n 1, 1) := by decide +kernel
theorem dX12_sits_17 : decode cX12_sits 17 = .ok (.imul, 1) := by decide +kernel
theorem dX12_sits_18 : decode cX12_sits 18 = .ok (.iload_n 2, 1) := by decide +kernel
theorem dX12_sits_19 : decode cX12_sits 19 = .ok (.iadd, 1) := by decide +kernel
theorem dX12_sits_20 : decode cX12_sits 20 = .ok (.iconst (-1), 1) := by decide +kernel
