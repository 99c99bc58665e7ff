section
-- ===== PART A: goes FIRST, ahead of the names: the tables' words, and 'selects' of the private methods out of them =====
/-- a private method of a class that the tables say can be made, by its rows of tables_1 -/
def lw_okq (q : MethodName × Nat) : Prop := (q.1.cls ≠ "java/lang/invoke/MethodHandle" ∧ q.1.cls ≠ "java/lang/invoke/VarHandle") ∧ Cond.instantiable q.1.cls q.2 ∈ tables_1 ∧ Cond.privateMethod q.1 ∈ tables_1 ∧ Cond.instanceMethod q.1 ∈ tables_1
theorem lw_p0 : lw_okq (⟨"SeatsRound$Parcels", "takesGreater", "(III)Z"⟩, 12) := ⟨⟨by decide +kernel, by decide +kernel⟩, List.mem_of_getElem? (i := 257) (by decide +kernel), List.mem_of_getElem? (i := 532) (by decide +kernel), List.mem_of_getElem? (i := 533) (by decide +kernel)⟩
theorem lw_p1 : lw_okq (⟨"SeatsRound$Law", "look", "(LSeatsRound$Table;LSeatsRound$Keepers;)V"⟩, 8) := ⟨⟨by decide +kernel, by decide +kernel⟩, List.mem_of_getElem? (i := 106) (by decide +kernel), List.mem_of_getElem? (i := 584) (by decide +kernel), List.mem_of_getElem? (i := 585) (by decide +kernel)⟩
theorem lw_p2 : lw_okq (⟨"SeatsRound$Law", "readPart", "(LSeatsRound$Table;I)I"⟩, 8) := ⟨⟨by decide +kernel, by decide +kernel⟩, List.mem_of_getElem? (i := 106) (by decide +kernel), List.mem_of_getElem? (i := 595) (by decide +kernel), List.mem_of_getElem? (i := 596) (by decide +kernel)⟩
theorem lw_p3 : lw_okq (⟨"SeatsRound$Law", "sign", "()I"⟩, 8) := ⟨⟨by decide +kernel, by decide +kernel⟩, List.mem_of_getElem? (i := 106) (by decide +kernel), List.mem_of_getElem? (i := 599) (by decide +kernel), List.mem_of_getElem? (i := 600) (by decide +kernel)⟩
theorem lw_p4 : lw_okq (⟨"SeatsRound$Law", "readSum", "(I)I"⟩, 8) := ⟨⟨by decide +kernel, by decide +kernel⟩, List.mem_of_getElem? (i := 106) (by decide +kernel), List.mem_of_getElem? (i := 603) (by decide +kernel), List.mem_of_getElem? (i := 604) (by decide +kernel)⟩
theorem lw_p5 : lw_okq (⟨"SeatsRound$Law", "readProduct", "(I)I"⟩, 8) := ⟨⟨by decide +kernel, by decide +kernel⟩, List.mem_of_getElem? (i := 106) (by decide +kernel), List.mem_of_getElem? (i := 607) (by decide +kernel), List.mem_of_getElem? (i := 608) (by decide +kernel)⟩
theorem lw_p6 : lw_okq (⟨"SeatsRound$Law", "readOperand", "(I)I"⟩, 8) := ⟨⟨by decide +kernel, by decide +kernel⟩, List.mem_of_getElem? (i := 106) (by decide +kernel), List.mem_of_getElem? (i := 611) (by decide +kernel), List.mem_of_getElem? (i := 612) (by decide +kernel)⟩
theorem lw_p7 : lw_okq (⟨"SeatsRound$Law", "readNumber", "()I"⟩, 8) := ⟨⟨by decide +kernel, by decide +kernel⟩, List.mem_of_getElem? (i := 106) (by decide +kernel), List.mem_of_getElem? (i := 618) (by decide +kernel), List.mem_of_getElem? (i := 619) (by decide +kernel)⟩
theorem lw_p8 : lw_okq (⟨"SeatsRound$Law", "readBracket", "(I)I"⟩, 8) := ⟨⟨by decide +kernel, by decide +kernel⟩, List.mem_of_getElem? (i := 106) (by decide +kernel), List.mem_of_getElem? (i := 622) (by decide +kernel), List.mem_of_getElem? (i := 623) (by decide +kernel)⟩
theorem lw_p9 : lw_okq (⟨"SeatsRound$Law", "readWay", "()I"⟩, 8) := ⟨⟨by decide +kernel, by decide +kernel⟩, List.mem_of_getElem? (i := 106) (by decide +kernel), List.mem_of_getElem? (i := 630) (by decide +kernel), List.mem_of_getElem? (i := 631) (by decide +kernel)⟩
theorem lw_p10 : lw_okq (⟨"SeatsRound$Table", "freeFrom", "(I)I"⟩, 13) := ⟨⟨by decide +kernel, by decide +kernel⟩, List.mem_of_getElem? (i := 183) (by decide +kernel), List.mem_of_getElem? (i := 651) (by decide +kernel), List.mem_of_getElem? (i := 652) (by decide +kernel)⟩
theorem lw_p11 : lw_okq (⟨"SeatsRound$Table", "linkPlaces", "()V"⟩, 13) := ⟨⟨by decide +kernel, by decide +kernel⟩, List.mem_of_getElem? (i := 183) (by decide +kernel), List.mem_of_getElem? (i := 658) (by decide +kernel), List.mem_of_getElem? (i := 659) (by decide +kernel)⟩
theorem lw_p12 : lw_okq (⟨"SeatsRound", "tableAt", "(I)LSeatsRound$Table;"⟩, 13) := ⟨⟨by decide +kernel, by decide +kernel⟩, List.mem_of_getElem? (i := 19) (by decide +kernel), List.mem_of_getElem? (i := 666) (by decide +kernel), List.mem_of_getElem? (i := 667) (by decide +kernel)⟩
theorem lw_p13 : lw_okq (⟨"SeatsRound$Choice", "pickBySums", "(LSeatsRound$Table;I)V"⟩, 9) := ⟨⟨by decide +kernel, by decide +kernel⟩, List.mem_of_getElem? (i := 137) (by decide +kernel), List.mem_of_getElem? (i := 702) (by decide +kernel), List.mem_of_getElem? (i := 703) (by decide +kernel)⟩
theorem lw_p14 : lw_okq (⟨"SeatsRound$Choice", "pickByJumps", "(LSeatsRound$Table;I)V"⟩, 9) := ⟨⟨by decide +kernel, by decide +kernel⟩, List.mem_of_getElem? (i := 137) (by decide +kernel), List.mem_of_getElem? (i := 707) (by decide +kernel), List.mem_of_getElem? (i := 708) (by decide +kernel)⟩
theorem lw_p15 : lw_okq (⟨"SeatsRound$Choice", "pickFirstFrom", "(LSeatsRound$Table;I)V"⟩, 9) := ⟨⟨by decide +kernel, by decide +kernel⟩, List.mem_of_getElem? (i := 137) (by decide +kernel), List.mem_of_getElem? (i := 711) (by decide +kernel), List.mem_of_getElem? (i := 712) (by decide +kernel)⟩
def lw_privs_1 : List (MethodName × Nat) := [(⟨"SeatsRound$Parcels", "takesGreater", "(III)Z"⟩, 12), (⟨"SeatsRound$Law", "look", "(LSeatsRound$Table;LSeatsRound$Keepers;)V"⟩, 8), (⟨"SeatsRound$Law", "readPart", "(LSeatsRound$Table;I)I"⟩, 8), (⟨"SeatsRound$Law", "sign", "()I"⟩, 8), (⟨"SeatsRound$Law", "readSum", "(I)I"⟩, 8), (⟨"SeatsRound$Law", "readProduct", "(I)I"⟩, 8), (⟨"SeatsRound$Law", "readOperand", "(I)I"⟩, 8), (⟨"SeatsRound$Law", "readNumber", "()I"⟩, 8), (⟨"SeatsRound$Law", "readBracket", "(I)I"⟩, 8), (⟨"SeatsRound$Law", "readWay", "()I"⟩, 8), (⟨"SeatsRound$Table", "freeFrom", "(I)I"⟩, 13), (⟨"SeatsRound$Table", "linkPlaces", "()V"⟩, 13), (⟨"SeatsRound", "tableAt", "(I)LSeatsRound$Table;"⟩, 13), (⟨"SeatsRound$Choice", "pickBySums", "(LSeatsRound$Table;I)V"⟩, 9), (⟨"SeatsRound$Choice", "pickByJumps", "(LSeatsRound$Table;I)V"⟩, 9), (⟨"SeatsRound$Choice", "pickFirstFrom", "(LSeatsRound$Table;I)V"⟩, 9)]
theorem lw_r1 : ∀ q ∈ lw_privs_1, lw_okq q := List.forall_mem_cons.mpr ⟨lw_p0, List.forall_mem_cons.mpr ⟨lw_p1, List.forall_mem_cons.mpr ⟨lw_p2, List.forall_mem_cons.mpr ⟨lw_p3, List.forall_mem_cons.mpr ⟨lw_p4, List.forall_mem_cons.mpr ⟨lw_p5, List.forall_mem_cons.mpr ⟨lw_p6, List.forall_mem_cons.mpr ⟨lw_p7, List.forall_mem_cons.mpr ⟨lw_p8, List.forall_mem_cons.mpr ⟨lw_p9, List.forall_mem_cons.mpr ⟨lw_p10, List.forall_mem_cons.mpr ⟨lw_p11, List.forall_mem_cons.mpr ⟨lw_p12, List.forall_mem_cons.mpr ⟨lw_p13, List.forall_mem_cons.mpr ⟨lw_p14, List.forall_mem_cons.mpr ⟨lw_p15, fun _ h => absurd h List.not_mem_nil⟩⟩⟩⟩⟩⟩⟩⟩⟩⟩⟩⟩⟩⟩⟩⟩
theorem lw_p16 : lw_okq (⟨"SeatsRound$Choice", "isPicked", "(I)Z"⟩, 9) := ⟨⟨by decide +kernel, by decide +kernel⟩, List.mem_of_getElem? (i := 137) (by decide +kernel), List.mem_of_getElem? (i := 715) (by decide +kernel), List.mem_of_getElem? (i := 716) (by decide +kernel)⟩
theorem lw_p17 : lw_okq (⟨"SeatsRound$Choice", "takePick", "(I)V"⟩, 9) := ⟨⟨by decide +kernel, by decide +kernel⟩, List.mem_of_getElem? (i := 137) (by decide +kernel), List.mem_of_getElem? (i := 719) (by decide +kernel), List.mem_of_getElem? (i := 720) (by decide +kernel)⟩
theorem lw_p18 : lw_okq (⟨"SeatsRound$Choice", "pickRound", "(LSeatsRound$Table;I)V"⟩, 9) := ⟨⟨by decide +kernel, by decide +kernel⟩, List.mem_of_getElem? (i := 137) (by decide +kernel), List.mem_of_getElem? (i := 724) (by decide +kernel), List.mem_of_getElem? (i := 725) (by decide +kernel)⟩
theorem lw_p19 : lw_okq (⟨"SeatsRound$Choice", "takeChosen", "(I)V"⟩, 9) := ⟨⟨by decide +kernel, by decide +kernel⟩, List.mem_of_getElem? (i := 137) (by decide +kernel), List.mem_of_getElem? (i := 738) (by decide +kernel), List.mem_of_getElem? (i := 739) (by decide +kernel)⟩
theorem lw_p20 : lw_okq (⟨"SeatsRound$Parcels", "reaches", "(II)Z"⟩, 12) := ⟨⟨by decide +kernel, by decide +kernel⟩, List.mem_of_getElem? (i := 257) (by decide +kernel), List.mem_of_getElem? (i := 783) (by decide +kernel), List.mem_of_getElem? (i := 784) (by decide +kernel)⟩
theorem lw_p21 : lw_okq (⟨"SeatsRound$Parcels", "isKeptFor", "(II)Z"⟩, 12) := ⟨⟨by decide +kernel, by decide +kernel⟩, List.mem_of_getElem? (i := 257) (by decide +kernel), List.mem_of_getElem? (i := 787) (by decide +kernel), List.mem_of_getElem? (i := 788) (by decide +kernel)⟩
theorem lw_p22 : lw_okq (⟨"SeatsRound$Parcels", "receives", "(III)Z"⟩, 12) := ⟨⟨by decide +kernel, by decide +kernel⟩, List.mem_of_getElem? (i := 257) (by decide +kernel), List.mem_of_getElem? (i := 793) (by decide +kernel), List.mem_of_getElem? (i := 794) (by decide +kernel)⟩
theorem lw_p23 : lw_okq (⟨"SeatsRound$Parcels", "hasRoom", "(II)Z"⟩, 12) := ⟨⟨by decide +kernel, by decide +kernel⟩, List.mem_of_getElem? (i := 257) (by decide +kernel), List.mem_of_getElem? (i := 797) (by decide +kernel), List.mem_of_getElem? (i := 798) (by decide +kernel)⟩
theorem lw_p24 : lw_okq (⟨"SeatsRound$Parcels", "greatestAnywhere", "(I)I"⟩, 12) := ⟨⟨by decide +kernel, by decide +kernel⟩, List.mem_of_getElem? (i := 257) (by decide +kernel), List.mem_of_getElem? (i := 840) (by decide +kernel), List.mem_of_getElem? (i := 841) (by decide +kernel)⟩
theorem lw_p25 : lw_okq (⟨"SeatsRound$Parcels", "grow", "([II)V"⟩, 12) := ⟨⟨by decide +kernel, by decide +kernel⟩, List.mem_of_getElem? (i := 257) (by decide +kernel), List.mem_of_getElem? (i := 852) (by decide +kernel), List.mem_of_getElem? (i := 853) (by decide +kernel)⟩
theorem lw_p26 : lw_okq (⟨"SeatsRound$Orders", "seatSet", "(LSeatsRound$Table;LSeatsRound$Table;I)Z"⟩, 10) := ⟨⟨by decide +kernel, by decide +kernel⟩, List.mem_of_getElem? (i := 307) (by decide +kernel), List.mem_of_getElem? (i := 892) (by decide +kernel), List.mem_of_getElem? (i := 893) (by decide +kernel)⟩
theorem lw_p27 : lw_okq (⟨"SeatsRound$Orders", "leastOnward", "(I)I"⟩, 10) := ⟨⟨by decide +kernel, by decide +kernel⟩, List.mem_of_getElem? (i := 307) (by decide +kernel), List.mem_of_getElem? (i := 902) (by decide +kernel), List.mem_of_getElem? (i := 903) (by decide +kernel)⟩
theorem lw_p28 : lw_okq (⟨"SeatsRound$Orders", "sumOver", "(II)I"⟩, 10) := ⟨⟨by decide +kernel, by decide +kernel⟩, List.mem_of_getElem? (i := 307) (by decide +kernel), List.mem_of_getElem? (i := 906) (by decide +kernel), List.mem_of_getElem? (i := 907) (by decide +kernel)⟩
theorem lw_p29 : lw_okq (⟨"SeatsRound$Orders", "walk", "(I)V"⟩, 10) := ⟨⟨by decide +kernel, by decide +kernel⟩, List.mem_of_getElem? (i := 307) (by decide +kernel), List.mem_of_getElem? (i := 911) (by decide +kernel), List.mem_of_getElem? (i := 912) (by decide +kernel)⟩
theorem lw_p30 : lw_okq (⟨"SeatsRound$Orders", "nextOf", "(I)I"⟩, 10) := ⟨⟨by decide +kernel, by decide +kernel⟩, List.mem_of_getElem? (i := 307) (by decide +kernel), List.mem_of_getElem? (i := 915) (by decide +kernel), List.mem_of_getElem? (i := 916) (by decide +kernel)⟩
theorem lw_p31 : lw_okq (⟨"SeatsRound$Turnings", "greatestShare", "(LSeatsRound$Table;)I"⟩, 5) := ⟨⟨by decide +kernel, by decide +kernel⟩, List.mem_of_getElem? (i := 349) (by decide +kernel), List.mem_of_getElem? (i := 937) (by decide +kernel), List.mem_of_getElem? (i := 938) (by decide +kernel)⟩
def lw_privs_2 : List (MethodName × Nat) := [(⟨"SeatsRound$Choice", "isPicked", "(I)Z"⟩, 9), (⟨"SeatsRound$Choice", "takePick", "(I)V"⟩, 9), (⟨"SeatsRound$Choice", "pickRound", "(LSeatsRound$Table;I)V"⟩, 9), (⟨"SeatsRound$Choice", "takeChosen", "(I)V"⟩, 9), (⟨"SeatsRound$Parcels", "reaches", "(II)Z"⟩, 12), (⟨"SeatsRound$Parcels", "isKeptFor", "(II)Z"⟩, 12), (⟨"SeatsRound$Parcels", "receives", "(III)Z"⟩, 12), (⟨"SeatsRound$Parcels", "hasRoom", "(II)Z"⟩, 12), (⟨"SeatsRound$Parcels", "greatestAnywhere", "(I)I"⟩, 12), (⟨"SeatsRound$Parcels", "grow", "([II)V"⟩, 12), (⟨"SeatsRound$Orders", "seatSet", "(LSeatsRound$Table;LSeatsRound$Table;I)Z"⟩, 10), (⟨"SeatsRound$Orders", "leastOnward", "(I)I"⟩, 10), (⟨"SeatsRound$Orders", "sumOver", "(II)I"⟩, 10), (⟨"SeatsRound$Orders", "walk", "(I)V"⟩, 10), (⟨"SeatsRound$Orders", "nextOf", "(I)I"⟩, 10), (⟨"SeatsRound$Turnings", "greatestShare", "(LSeatsRound$Table;)I"⟩, 5)]
theorem lw_r2 : ∀ q ∈ lw_privs_2, lw_okq q := List.forall_mem_cons.mpr ⟨lw_p16, List.forall_mem_cons.mpr ⟨lw_p17, List.forall_mem_cons.mpr ⟨lw_p18, List.forall_mem_cons.mpr ⟨lw_p19, List.forall_mem_cons.mpr ⟨lw_p20, List.forall_mem_cons.mpr ⟨lw_p21, List.forall_mem_cons.mpr ⟨lw_p22, List.forall_mem_cons.mpr ⟨lw_p23, List.forall_mem_cons.mpr ⟨lw_p24, List.forall_mem_cons.mpr ⟨lw_p25, List.forall_mem_cons.mpr ⟨lw_p26, List.forall_mem_cons.mpr ⟨lw_p27, List.forall_mem_cons.mpr ⟨lw_p28, List.forall_mem_cons.mpr ⟨lw_p29, List.forall_mem_cons.mpr ⟨lw_p30, List.forall_mem_cons.mpr ⟨lw_p31, fun _ h => absurd h List.not_mem_nil⟩⟩⟩⟩⟩⟩⟩⟩⟩⟩⟩⟩⟩⟩⟩⟩
theorem lw_p32 : lw_okq (⟨"SeatsRound$Acts", "findsFrom", "(II)I"⟩, 5) := ⟨⟨by decide +kernel, by decide +kernel⟩, List.mem_of_getElem? (i := 374) (by decide +kernel), List.mem_of_getElem? (i := 957) (by decide +kernel), List.mem_of_getElem? (i := 958) (by decide +kernel)⟩
theorem lw_p33 : lw_okq (⟨"SeatsRound$Acts", "begin", "(I)V"⟩, 5) := ⟨⟨by decide +kernel, by decide +kernel⟩, List.mem_of_getElem? (i := 374) (by decide +kernel), List.mem_of_getElem? (i := 961) (by decide +kernel), List.mem_of_getElem? (i := 962) (by decide +kernel)⟩
theorem lw_p34 : lw_okq (⟨"SeatsRound$Acts", "keepsFrom", "(II)I"⟩, 5) := ⟨⟨by decide +kernel, by decide +kernel⟩, List.mem_of_getElem? (i := 374) (by decide +kernel), List.mem_of_getElem? (i := 965) (by decide +kernel), List.mem_of_getElem? (i := 966) (by decide +kernel)⟩
theorem lw_p35 : lw_okq (⟨"SeatsRound$Acts", "movesFrom", "(II)I"⟩, 5) := ⟨⟨by decide +kernel, by decide +kernel⟩, List.mem_of_getElem? (i := 374) (by decide +kernel), List.mem_of_getElem? (i := 969) (by decide +kernel), List.mem_of_getElem? (i := 970) (by decide +kernel)⟩
theorem lw_p36 : lw_okq (⟨"SeatsRound$Acts", "tellsFrom", "(II)I"⟩, 5) := ⟨⟨by decide +kernel, by decide +kernel⟩, List.mem_of_getElem? (i := 374) (by decide +kernel), List.mem_of_getElem? (i := 973) (by decide +kernel), List.mem_of_getElem? (i := 974) (by decide +kernel)⟩
theorem lw_p37 : lw_okq (⟨"SeatsRoundModel", "found", "(I)I"⟩, 59) := ⟨⟨by decide +kernel, by decide +kernel⟩, List.mem_of_getElem? (i := 1071) (by decide +kernel), List.mem_of_getElem? (i := 1266) (by decide +kernel), List.mem_of_getElem? (i := 1267) (by decide +kernel)⟩
theorem lw_p38 : lw_okq (⟨"SeatsRoundModel", "comesName", "(I)V"⟩, 59) := ⟨⟨by decide +kernel, by decide +kernel⟩, List.mem_of_getElem? (i := 1071) (by decide +kernel), List.mem_of_getElem? (i := 1270) (by decide +kernel), List.mem_of_getElem? (i := 1271) (by decide +kernel)⟩
theorem lw_p39 : lw_okq (⟨"SeatsRoundModel", "isName", "(I)Z"⟩, 59) := ⟨⟨by decide +kernel, by decide +kernel⟩, List.mem_of_getElem? (i := 1071) (by decide +kernel), List.mem_of_getElem? (i := 1278) (by decide +kernel), List.mem_of_getElem? (i := 1279) (by decide +kernel)⟩
theorem lw_p40 : lw_okq (⟨"SeatsRoundModel", "numberOf", "(II)I"⟩, 59) := ⟨⟨by decide +kernel, by decide +kernel⟩, List.mem_of_getElem? (i := 1071) (by decide +kernel), List.mem_of_getElem? (i := 1282) (by decide +kernel), List.mem_of_getElem? (i := 1283) (by decide +kernel)⟩
theorem lw_p41 : lw_okq (⟨"SeatsRoundModel", "isKeeper", "(I)Z"⟩, 59) := ⟨⟨by decide +kernel, by decide +kernel⟩, List.mem_of_getElem? (i := 1071) (by decide +kernel), List.mem_of_getElem? (i := 1295) (by decide +kernel), List.mem_of_getElem? (i := 1296) (by decide +kernel)⟩
theorem lw_p42 : lw_okq (⟨"SeatsRoundModel", "countsNow", "(I)I"⟩, 59) := ⟨⟨by decide +kernel, by decide +kernel⟩, List.mem_of_getElem? (i := 1071) (by decide +kernel), List.mem_of_getElem? (i := 1308) (by decide +kernel), List.mem_of_getElem? (i := 1309) (by decide +kernel)⟩
theorem lw_p43 : lw_okq (⟨"SeatsRoundModel", "many", "(IZ)I"⟩, 59) := ⟨⟨by decide +kernel, by decide +kernel⟩, List.mem_of_getElem? (i := 1071) (by decide +kernel), List.mem_of_getElem? (i := 1312) (by decide +kernel), List.mem_of_getElem? (i := 1313) (by decide +kernel)⟩
theorem lw_p44 : lw_okq (⟨"SeatsRoundModel", "numbers", "(I)V"⟩, 59) := ⟨⟨by decide +kernel, by decide +kernel⟩, List.mem_of_getElem? (i := 1071) (by decide +kernel), List.mem_of_getElem? (i := 1320) (by decide +kernel), List.mem_of_getElem? (i := 1321) (by decide +kernel)⟩
theorem lw_p45 : lw_okq (⟨"SeatsRoundModel", "isIn", "(II)Z"⟩, 59) := ⟨⟨by decide +kernel, by decide +kernel⟩, List.mem_of_getElem? (i := 1071) (by decide +kernel), List.mem_of_getElem? (i := 1324) (by decide +kernel), List.mem_of_getElem? (i := 1325) (by decide +kernel)⟩
theorem lw_p46 : lw_okq (⟨"SeatsRoundModel", "reads", "(I)I"⟩, 59) := ⟨⟨by decide +kernel, by decide +kernel⟩, List.mem_of_getElem? (i := 1071) (by decide +kernel), List.mem_of_getElem? (i := 1328) (by decide +kernel), List.mem_of_getElem? (i := 1329) (by decide +kernel)⟩
theorem lw_p47 : lw_okq (⟨"SeatsRoundModel", "here", "()I"⟩, 59) := ⟨⟨by decide +kernel, by decide +kernel⟩, List.mem_of_getElem? (i := 1071) (by decide +kernel), List.mem_of_getElem? (i := 1332) (by decide +kernel), List.mem_of_getElem? (i := 1333) (by decide +kernel)⟩
def lw_privs_3 : List (MethodName × Nat) := [(⟨"SeatsRound$Acts", "findsFrom", "(II)I"⟩, 5), (⟨"SeatsRound$Acts", "begin", "(I)V"⟩, 5), (⟨"SeatsRound$Acts", "keepsFrom", "(II)I"⟩, 5), (⟨"SeatsRound$Acts", "movesFrom", "(II)I"⟩, 5), (⟨"SeatsRound$Acts", "tellsFrom", "(II)I"⟩, 5), (⟨"SeatsRoundModel", "found", "(I)I"⟩, 59), (⟨"SeatsRoundModel", "comesName", "(I)V"⟩, 59), (⟨"SeatsRoundModel", "isName", "(I)Z"⟩, 59), (⟨"SeatsRoundModel", "numberOf", "(II)I"⟩, 59), (⟨"SeatsRoundModel", "isKeeper", "(I)Z"⟩, 59), (⟨"SeatsRoundModel", "countsNow", "(I)I"⟩, 59), (⟨"SeatsRoundModel", "many", "(IZ)I"⟩, 59), (⟨"SeatsRoundModel", "numbers", "(I)V"⟩, 59), (⟨"SeatsRoundModel", "isIn", "(II)Z"⟩, 59), (⟨"SeatsRoundModel", "reads", "(I)I"⟩, 59), (⟨"SeatsRoundModel", "here", "()I"⟩, 59)]
theorem lw_r3 : ∀ q ∈ lw_privs_3, lw_okq q := List.forall_mem_cons.mpr ⟨lw_p32, List.forall_mem_cons.mpr ⟨lw_p33, List.forall_mem_cons.mpr ⟨lw_p34, List.forall_mem_cons.mpr ⟨lw_p35, List.forall_mem_cons.mpr ⟨lw_p36, List.forall_mem_cons.mpr ⟨lw_p37, List.forall_mem_cons.mpr ⟨lw_p38, List.forall_mem_cons.mpr ⟨lw_p39, List.forall_mem_cons.mpr ⟨lw_p40, List.forall_mem_cons.mpr ⟨lw_p41, List.forall_mem_cons.mpr ⟨lw_p42, List.forall_mem_cons.mpr ⟨lw_p43, List.forall_mem_cons.mpr ⟨lw_p44, List.forall_mem_cons.mpr ⟨lw_p45, List.forall_mem_cons.mpr ⟨lw_p46, List.forall_mem_cons.mpr ⟨lw_p47, fun _ h => absurd h List.not_mem_nil⟩⟩⟩⟩⟩⟩⟩⟩⟩⟩⟩⟩⟩⟩⟩⟩
theorem lw_p48 : lw_okq (⟨"SeatsRoundModel", "eats", "(I)V"⟩, 59) := ⟨⟨by decide +kernel, by decide +kernel⟩, List.mem_of_getElem? (i := 1071) (by decide +kernel), List.mem_of_getElem? (i := 1336) (by decide +kernel), List.mem_of_getElem? (i := 1337) (by decide +kernel)⟩
theorem lw_p49 : lw_okq (⟨"SeatsRoundModel", "sum", "()I"⟩, 59) := ⟨⟨by decide +kernel, by decide +kernel⟩, List.mem_of_getElem? (i := 1071) (by decide +kernel), List.mem_of_getElem? (i := 1340) (by decide +kernel), List.mem_of_getElem? (i := 1341) (by decide +kernel)⟩
theorem lw_p50 : lw_okq (⟨"SeatsRoundModel", "product", "()I"⟩, 59) := ⟨⟨by decide +kernel, by decide +kernel⟩, List.mem_of_getElem? (i := 1071) (by decide +kernel), List.mem_of_getElem? (i := 1344) (by decide +kernel), List.mem_of_getElem? (i := 1345) (by decide +kernel)⟩
theorem lw_p51 : lw_okq (⟨"SeatsRoundModel", "one", "()I"⟩, 59) := ⟨⟨by decide +kernel, by decide +kernel⟩, List.mem_of_getElem? (i := 1071) (by decide +kernel), List.mem_of_getElem? (i := 1348) (by decide +kernel), List.mem_of_getElem? (i := 1349) (by decide +kernel)⟩
theorem lw_p52 : lw_okq (⟨"SeatsRoundModel", "sits", "(I)V"⟩, 59) := ⟨⟨by decide +kernel, by decide +kernel⟩, List.mem_of_getElem? (i := 1071) (by decide +kernel), List.mem_of_getElem? (i := 1355) (by decide +kernel), List.mem_of_getElem? (i := 1356) (by decide +kernel)⟩
theorem lw_p53 : lw_okq (⟨"SeatsRoundModel", "isTable", "(I)Z"⟩, 59) := ⟨⟨by decide +kernel, by decide +kernel⟩, List.mem_of_getElem? (i := 1071) (by decide +kernel), List.mem_of_getElem? (i := 1368) (by decide +kernel), List.mem_of_getElem? (i := 1369) (by decide +kernel)⟩
theorem lw_p54 : lw_okq (⟨"SeatsRoundModel", "pick", "(II)V"⟩, 59) := ⟨⟨by decide +kernel, by decide +kernel⟩, List.mem_of_getElem? (i := 1071) (by decide +kernel), List.mem_of_getElem? (i := 1376) (by decide +kernel), List.mem_of_getElem? (i := 1377) (by decide +kernel)⟩
theorem lw_p55 : lw_okq (⟨"SeatsRoundModel", "pickBest", "(III)V"⟩, 59) := ⟨⟨by decide +kernel, by decide +kernel⟩, List.mem_of_getElem? (i := 1071) (by decide +kernel), List.mem_of_getElem? (i := 1380) (by decide +kernel), List.mem_of_getElem? (i := 1381) (by decide +kernel)⟩
theorem lw_p56 : lw_okq (⟨"SeatsRoundModel", "pickNext", "(III)V"⟩, 59) := ⟨⟨by decide +kernel, by decide +kernel⟩, List.mem_of_getElem? (i := 1071) (by decide +kernel), List.mem_of_getElem? (i := 1384) (by decide +kernel), List.mem_of_getElem? (i := 1385) (by decide +kernel)⟩
theorem lw_p57 : lw_okq (⟨"SeatsRoundModel", "chooseName", "(II)V"⟩, 59) := ⟨⟨by decide +kernel, by decide +kernel⟩, List.mem_of_getElem? (i := 1071) (by decide +kernel), List.mem_of_getElem? (i := 1392) (by decide +kernel), List.mem_of_getElem? (i := 1393) (by decide +kernel)⟩
theorem lw_p58 : lw_okq (⟨"SeatsRoundModel", "choose", "(II)V"⟩, 59) := ⟨⟨by decide +kernel, by decide +kernel⟩, List.mem_of_getElem? (i := 1071) (by decide +kernel), List.mem_of_getElem? (i := 1396) (by decide +kernel), List.mem_of_getElem? (i := 1397) (by decide +kernel)⟩
theorem lw_p59 : lw_okq (⟨"SeatsRoundModel", "streetsOf", "(I)I"⟩, 59) := ⟨⟨by decide +kernel, by decide +kernel⟩, List.mem_of_getElem? (i := 1071) (by decide +kernel), List.mem_of_getElem? (i := 1400) (by decide +kernel), List.mem_of_getElem? (i := 1401) (by decide +kernel)⟩
theorem lw_p60 : lw_okq (⟨"SeatsRoundModel", "isChosen", "(I)Z"⟩, 59) := ⟨⟨by decide +kernel, by decide +kernel⟩, List.mem_of_getElem? (i := 1071) (by decide +kernel), List.mem_of_getElem? (i := 1404) (by decide +kernel), List.mem_of_getElem? (i := 1405) (by decide +kernel)⟩
theorem lw_p61 : lw_okq (⟨"SeatsRoundModel", "shareOf", "(II)I"⟩, 59) := ⟨⟨by decide +kernel, by decide +kernel⟩, List.mem_of_getElem? (i := 1071) (by decide +kernel), List.mem_of_getElem? (i := 1416) (by decide +kernel), List.mem_of_getElem? (i := 1417) (by decide +kernel)⟩
theorem lw_p62 : lw_okq (⟨"SeatsRoundModel", "findOdds", "(I)V"⟩, 59) := ⟨⟨by decide +kernel, by decide +kernel⟩, List.mem_of_getElem? (i := 1071) (by decide +kernel), List.mem_of_getElem? (i := 1420) (by decide +kernel), List.mem_of_getElem? (i := 1421) (by decide +kernel)⟩
theorem lw_p63 : lw_okq (⟨"SeatsRoundModel", "even", "(I)I"⟩, 59) := ⟨⟨by decide +kernel, by decide +kernel⟩, List.mem_of_getElem? (i := 1071) (by decide +kernel), List.mem_of_getElem? (i := 1428) (by decide +kernel), List.mem_of_getElem? (i := 1429) (by decide +kernel)⟩
def lw_privs_4 : List (MethodName × Nat) := [(⟨"SeatsRoundModel", "eats", "(I)V"⟩, 59), (⟨"SeatsRoundModel", "sum", "()I"⟩, 59), (⟨"SeatsRoundModel", "product", "()I"⟩, 59), (⟨"SeatsRoundModel", "one", "()I"⟩, 59), (⟨"SeatsRoundModel", "sits", "(I)V"⟩, 59), (⟨"SeatsRoundModel", "isTable", "(I)Z"⟩, 59), (⟨"SeatsRoundModel", "pick", "(II)V"⟩, 59), (⟨"SeatsRoundModel", "pickBest", "(III)V"⟩, 59), (⟨"SeatsRoundModel", "pickNext", "(III)V"⟩, 59), (⟨"SeatsRoundModel", "chooseName", "(II)V"⟩, 59), (⟨"SeatsRoundModel", "choose", "(II)V"⟩, 59), (⟨"SeatsRoundModel", "streetsOf", "(I)I"⟩, 59), (⟨"SeatsRoundModel", "isChosen", "(I)Z"⟩, 59), (⟨"SeatsRoundModel", "shareOf", "(II)I"⟩, 59), (⟨"SeatsRoundModel", "findOdds", "(I)V"⟩, 59), (⟨"SeatsRoundModel", "even", "(I)I"⟩, 59)]
theorem lw_r4 : ∀ q ∈ lw_privs_4, lw_okq q := List.forall_mem_cons.mpr ⟨lw_p48, List.forall_mem_cons.mpr ⟨lw_p49, List.forall_mem_cons.mpr ⟨lw_p50, List.forall_mem_cons.mpr ⟨lw_p51, List.forall_mem_cons.mpr ⟨lw_p52, List.forall_mem_cons.mpr ⟨lw_p53, List.forall_mem_cons.mpr ⟨lw_p54, List.forall_mem_cons.mpr ⟨lw_p55, List.forall_mem_cons.mpr ⟨lw_p56, List.forall_mem_cons.mpr ⟨lw_p57, List.forall_mem_cons.mpr ⟨lw_p58, List.forall_mem_cons.mpr ⟨lw_p59, List.forall_mem_cons.mpr ⟨lw_p60, List.forall_mem_cons.mpr ⟨lw_p61, List.forall_mem_cons.mpr ⟨lw_p62, List.forall_mem_cons.mpr ⟨lw_p63, fun _ h => absurd h List.not_mem_nil⟩⟩⟩⟩⟩⟩⟩⟩⟩⟩⟩⟩⟩⟩⟩⟩
theorem lw_p64 : lw_okq (⟨"SeatsRoundModel", "bits", "()I"⟩, 59) := ⟨⟨by decide +kernel, by decide +kernel⟩, List.mem_of_getElem? (i := 1071) (by decide +kernel), List.mem_of_getElem? (i := 1436) (by decide +kernel), List.mem_of_getElem? (i := 1437) (by decide +kernel)⟩
theorem lw_p65 : lw_okq (⟨"SeatsRoundModel", "isAwake", "(I)Z"⟩, 59) := ⟨⟨by decide +kernel, by decide +kernel⟩, List.mem_of_getElem? (i := 1071) (by decide +kernel), List.mem_of_getElem? (i := 1451) (by decide +kernel), List.mem_of_getElem? (i := 1452) (by decide +kernel)⟩
theorem lw_p66 : lw_okq (⟨"SeatsRoundModel", "keeps", "(IIII)I"⟩, 59) := ⟨⟨by decide +kernel, by decide +kernel⟩, List.mem_of_getElem? (i := 1071) (by decide +kernel), List.mem_of_getElem? (i := 1455) (by decide +kernel), List.mem_of_getElem? (i := 1456) (by decide +kernel)⟩
theorem lw_p67 : lw_okq (⟨"SeatsRoundModel", "hasRoom", "(II)Z"⟩, 59) := ⟨⟨by decide +kernel, by decide +kernel⟩, List.mem_of_getElem? (i := 1071) (by decide +kernel), List.mem_of_getElem? (i := 1459) (by decide +kernel), List.mem_of_getElem? (i := 1460) (by decide +kernel)⟩
theorem lw_p68 : lw_okq (⟨"SeatsRoundModel", "wordsBelow", "(IIII)I"⟩, 59) := ⟨⟨by decide +kernel, by decide +kernel⟩, List.mem_of_getElem? (i := 1071) (by decide +kernel), List.mem_of_getElem? (i := 1487) (by decide +kernel), List.mem_of_getElem? (i := 1488) (by decide +kernel)⟩
theorem lw_p69 : lw_okq (⟨"SeatsRoundModel", "areUnlike", "(IIII)Z"⟩, 59) := ⟨⟨by decide +kernel, by decide +kernel⟩, List.mem_of_getElem? (i := 1071) (by decide +kernel), List.mem_of_getElem? (i := 1491) (by decide +kernel), List.mem_of_getElem? (i := 1492) (by decide +kernel)⟩
theorem lw_p70 : lw_okq (⟨"SeatsRoundModel", "leafOf", "(II)I"⟩, 59) := ⟨⟨by decide +kernel, by decide +kernel⟩, List.mem_of_getElem? (i := 1071) (by decide +kernel), List.mem_of_getElem? (i := 1495) (by decide +kernel), List.mem_of_getElem? (i := 1496) (by decide +kernel)⟩
theorem lw_p71 : lw_okq (⟨"SeatsRoundModel", "isComing", "(I)Z"⟩, 59) := ⟨⟨by decide +kernel, by decide +kernel⟩, List.mem_of_getElem? (i := 1071) (by decide +kernel), List.mem_of_getElem? (i := 1511) (by decide +kernel), List.mem_of_getElem? (i := 1512) (by decide +kernel)⟩
theorem lw_p72 : lw_okq (⟨"SeatsRoundModel", "setBy", "(II)I"⟩, 59) := ⟨⟨by decide +kernel, by decide +kernel⟩, List.mem_of_getElem? (i := 1071) (by decide +kernel), List.mem_of_getElem? (i := 1519) (by decide +kernel), List.mem_of_getElem? (i := 1520) (by decide +kernel)⟩
theorem lw_p73 : lw_okq (⟨"SeatsRoundModel", "tries", "(III)V"⟩, 59) := ⟨⟨by decide +kernel, by decide +kernel⟩, List.mem_of_getElem? (i := 1071) (by decide +kernel), List.mem_of_getElem? (i := 1523) (by decide +kernel), List.mem_of_getElem? (i := 1524) (by decide +kernel)⟩
theorem lw_p74 : lw_okq (⟨"SeatsRoundModel", "movesBy", "(I)I"⟩, 59) := ⟨⟨by decide +kernel, by decide +kernel⟩, List.mem_of_getElem? (i := 1071) (by decide +kernel), List.mem_of_getElem? (i := 1527) (by decide +kernel), List.mem_of_getElem? (i := 1528) (by decide +kernel)⟩
theorem lw_p75 : lw_okq (⟨"SeatsRoundModel", "nextOrder", "(I)Z"⟩, 59) := ⟨⟨by decide +kernel, by decide +kernel⟩, List.mem_of_getElem? (i := 1071) (by decide +kernel), List.mem_of_getElem? (i := 1531) (by decide +kernel), List.mem_of_getElem? (i := 1532) (by decide +kernel)⟩
theorem lw_p76 : lw_okq (⟨"SeatsRoundModel", "findsFrom", "(III)I"⟩, 59) := ⟨⟨by decide +kernel, by decide +kernel⟩, List.mem_of_getElem? (i := 1071) (by decide +kernel), List.mem_of_getElem? (i := 1555) (by decide +kernel), List.mem_of_getElem? (i := 1556) (by decide +kernel)⟩
theorem lw_p77 : lw_okq (⟨"SeatsRoundModel", "begins", "(I)V"⟩, 59) := ⟨⟨by decide +kernel, by decide +kernel⟩, List.mem_of_getElem? (i := 1071) (by decide +kernel), List.mem_of_getElem? (i := 1559) (by decide +kernel), List.mem_of_getElem? (i := 1560) (by decide +kernel)⟩
theorem lw_p78 : lw_okq (⟨"SeatsRoundModel", "keepsFrom", "(III)I"⟩, 59) := ⟨⟨by decide +kernel, by decide +kernel⟩, List.mem_of_getElem? (i := 1071) (by decide +kernel), List.mem_of_getElem? (i := 1566) (by decide +kernel), List.mem_of_getElem? (i := 1567) (by decide +kernel)⟩
theorem lw_p79 : lw_okq (⟨"SeatsRoundModel", "movesFrom", "(III)I"⟩, 59) := ⟨⟨by decide +kernel, by decide +kernel⟩, List.mem_of_getElem? (i := 1071) (by decide +kernel), List.mem_of_getElem? (i := 1570) (by decide +kernel), List.mem_of_getElem? (i := 1571) (by decide +kernel)⟩
def lw_privs_5 : List (MethodName × Nat) := [(⟨"SeatsRoundModel", "bits", "()I"⟩, 59), (⟨"SeatsRoundModel", "isAwake", "(I)Z"⟩, 59), (⟨"SeatsRoundModel", "keeps", "(IIII)I"⟩, 59), (⟨"SeatsRoundModel", "hasRoom", "(II)Z"⟩, 59), (⟨"SeatsRoundModel", "wordsBelow", "(IIII)I"⟩, 59), (⟨"SeatsRoundModel", "areUnlike", "(IIII)Z"⟩, 59), (⟨"SeatsRoundModel", "leafOf", "(II)I"⟩, 59), (⟨"SeatsRoundModel", "isComing", "(I)Z"⟩, 59), (⟨"SeatsRoundModel", "setBy", "(II)I"⟩, 59), (⟨"SeatsRoundModel", "tries", "(III)V"⟩, 59), (⟨"SeatsRoundModel", "movesBy", "(I)I"⟩, 59), (⟨"SeatsRoundModel", "nextOrder", "(I)Z"⟩, 59), (⟨"SeatsRoundModel", "findsFrom", "(III)I"⟩, 59), (⟨"SeatsRoundModel", "begins", "(I)V"⟩, 59), (⟨"SeatsRoundModel", "keepsFrom", "(III)I"⟩, 59), (⟨"SeatsRoundModel", "movesFrom", "(III)I"⟩, 59)]
theorem lw_r5 : ∀ q ∈ lw_privs_5, lw_okq q := List.forall_mem_cons.mpr ⟨lw_p64, List.forall_mem_cons.mpr ⟨lw_p65, List.forall_mem_cons.mpr ⟨lw_p66, List.forall_mem_cons.mpr ⟨lw_p67, List.forall_mem_cons.mpr ⟨lw_p68, List.forall_mem_cons.mpr ⟨lw_p69, List.forall_mem_cons.mpr ⟨lw_p70, List.forall_mem_cons.mpr ⟨lw_p71, List.forall_mem_cons.mpr ⟨lw_p72, List.forall_mem_cons.mpr ⟨lw_p73, List.forall_mem_cons.mpr ⟨lw_p74, List.forall_mem_cons.mpr ⟨lw_p75, List.forall_mem_cons.mpr ⟨lw_p76, List.forall_mem_cons.mpr ⟨lw_p77, List.forall_mem_cons.mpr ⟨lw_p78, List.forall_mem_cons.mpr ⟨lw_p79, fun _ h => absurd h List.not_mem_nil⟩⟩⟩⟩⟩⟩⟩⟩⟩⟩⟩⟩⟩⟩⟩⟩
theorem lw_p80 : lw_okq (⟨"SeatsRoundModel", "tellsFrom", "(III)I"⟩, 59) := ⟨⟨by decide +kernel, by decide +kernel⟩, List.mem_of_getElem? (i := 1071) (by decide +kernel), List.mem_of_getElem? (i := 1574) (by decide +kernel), List.mem_of_getElem? (i := 1575) (by decide +kernel)⟩
theorem lw_p81 : lw_okq (⟨"SeatsRoundModel", "barred", "(II)I"⟩, 59) := ⟨⟨by decide +kernel, by decide +kernel⟩, List.mem_of_getElem? (i := 1071) (by decide +kernel), List.mem_of_getElem? (i := 1597) (by decide +kernel), List.mem_of_getElem? (i := 1598) (by decide +kernel)⟩
def lw_privs_6 : List (MethodName × Nat) := [(⟨"SeatsRoundModel", "tellsFrom", "(III)I"⟩, 59), (⟨"SeatsRoundModel", "barred", "(II)I"⟩, 59)]
theorem lw_r6 : ∀ q ∈ lw_privs_6, lw_okq q := List.forall_mem_cons.mpr ⟨lw_p80, List.forall_mem_cons.mpr ⟨lw_p81, fun _ h => absurd h List.not_mem_nil⟩⟩
def lw_privs : List (MethodName × Nat) := lw_privs_1 ++ (lw_privs_2 ++ (lw_privs_3 ++ (lw_privs_4 ++ (lw_privs_5 ++ (lw_privs_6)))))
def lw_tbl : List Cond := k2_sels lw_privs ++ tables_1
theorem lw_privs_ok : ∀ q ∈ lw_privs, lw_okq q := by
  show ∀ q ∈ lw_privs_1 ++ (lw_privs_2 ++ (lw_privs_3 ++ (lw_privs_4 ++ (lw_privs_5 ++ (lw_privs_6))))), lw_okq q
  exact List.forall_mem_append.mpr ⟨lw_r1, List.forall_mem_append.mpr ⟨lw_r2, List.forall_mem_append.mpr ⟨lw_r3, List.forall_mem_append.mpr ⟨lw_r4, List.forall_mem_append.mpr ⟨lw_r5, lw_r6⟩⟩⟩⟩⟩
-- ===== end of PART A; then your names; then what follows =====
end
section
/-! ===== BEGIN words of one list among another's, by their places ===== -/
theorem goodIn_r {big : List Cond} (ws : List Cond) (ps : List Nat) (hp : ws = ps.filterMap (fun i => big[i]?)) (h : ws.all goodWord = true) : GoodIn big ws := by
  intro w hw
  have h1 := List.all_eq_true.mp h w hw
  rw [hp] at hw
  obtain ⟨i, -, hi⟩ := List.mem_filterMap.mp hw
  have hm : w ∈ big := by first | exact List.mem_of_getElem? hi | exact List.getElem?_mem hi
  exact ⟨hm, good_of_word h1⟩
theorem goodIn_app {big a b : List Cond} (ha : GoodIn big a) (hb : GoodIn big b) : GoodIn big (a ++ b) := fun w h => (List.mem_append.mp h).elim (ha w) (hb w)
theorem goodIn_ca {big a b : List Cond} {c : Cond} (ha : GoodIn big (c :: a)) (hb : GoodIn big b) : GoodIn big (c :: (a ++ b)) := fun w h => (List.mem_cons.mp h).elim (fun e => ha w (List.mem_cons.mpr (Or.inl e))) (fun h => (List.mem_append.mp h).elim (fun h => ha w (List.mem_cons.mpr (Or.inr h))) (hb w))
theorem goodIn_sub {big ws : List Cond} (hm : ∀ w ∈ ws, w ∈ big) (h : ws.all goodWord = true) : GoodIn big ws := fun w hw => ⟨hm w hw, good_of_word (List.all_eq_true.mp h w hw)⟩
/-! ===== END ===== -/

/-! ===== BEGIN new T[n][m]: the outer array a place, the inner ones among the pooled ===== -/
/-- f, but v at every address of l -/
def vr_up {α : Type} (f : Nat → α) (l : List Nat) (v : α) : Nat → α := fun a => if a ∈ l then v else f a
theorem vr_up_in {α : Type} {f : Nat → α} {l : List Nat} {v : α} {a : Nat} (h : a ∈ l) : vr_up f l v a = v := if_pos h
theorem vr_up_ne {α : Type} {f : Nat → α} {l : List Nat} {v : α} {a : Nat} (h : a ∉ l) : vr_up f l v a = f a := if_neg h
theorem vr_rows {L l : List Nat} {f : Nat → va_E} {e : va_E} (h : ∀ a, a ∈ l → a ∉ L) : va_pl L f ++ l.map (fun a => (a, e)) = va_pl (L ++ l) (vr_up f l e) := by
  unfold va_pl
  rw [List.map_append]
  congr 1
  · apply List.map_congr_left
    intro a ha
    rw [vr_up_ne (fun q => h a q ha)]
  · apply List.map_congr_left
    intro a ha
    rw [vr_up_in ha]
theorem vr_lay {X rows : va_W} {x : Nat × va_E} {pl : va_W} {D : va_G} {cl : List vw_C} {H : Heap} (hP : va_P D cl (((X ++ pl) ++ [x]) ++ rows) H) : va_P D cl ((X ++ [x]) ++ (pl ++ rows)) H := by
  rw [List.append_assoc (X ++ pl)] at hP
  have h := va_P.swap hP
  rw [← List.append_assoc X] at h
  have h2 := va_P.swap h
  rw [List.append_assoc (X ++ [x])] at h2
  exact h2
theorem vr_layD {X rows : va_W} {x : Nat × va_E} {pl : va_W} {A : Nat → Prop} (hD : va_D A (((X ++ pl) ++ [x]) ++ rows)) : va_D A ((X ++ [x]) ++ (pl ++ rows)) := by
  rw [List.append_assoc (X ++ pl)] at hD
  have h := va_D.swap hD
  rw [← List.append_assoc X] at h
  have h2 := va_D.swap h
  rw [List.append_assoc (X ++ [x])] at h2
  exact h2
theorem vr_outer (c : ClassId) (N h0 : Nat) : ∀ i : Nat, Jvm.Free.Multi.outerC c N h0 i = arrV c N (fun j => va_rf (if j < i then some (h0 + 1 + j) else none))
  | 0 => by
    show ({ cls := c, slots := Array.replicate N .null, vm := .none } : Cell) = _
    rw [arrV_new]
    refine congrArg (arrV c N) (funext fun j => ?_)
    simp [va_rf]
  | i + 1 => by
    show (Jvm.Free.Multi.outerC c N h0 i).setSlot i (.ref (h0 + 1 + i)) = _
    rw [vr_outer c N h0 i, arrV_store]
    refine congrArg (arrV c N) (funext fun j => ?_)
    by_cases e : j = i
    · subst e
      simp [updV, va_rf]
    · by_cases h : j < i
      · simp [updV, e, h, Nat.lt_succ_of_lt h]
      · simp [updV, e, h, show ¬ j < i + 1 by omega]
/-! the kit's names call on va_AOA, which no file of the kit has: here as va_AO has it, for an array's type -/
def va_AOA (ty : FieldType) (U : State) : Prop := (Cond.arrayOver (.array ty)).before #[] U = true
theorem va_AOA.of {ty : FieldType} {A : Array Value} {U : State} (h : (Cond.arrayOver (.array ty)).before A U = true) : va_AOA ty U := h
theorem va_AOA.use {ty : FieldType} {A : Array Value} {U : State} (h : va_AOA ty U) : (Cond.arrayOver (.array ty)).before A U = true := h
theorem va_AOA.moved {ty : FieldType} {u U : State} (hvm : u.vm.Alike U.vm) (h : va_AOA ty u) : va_AOA ty U := Jvm.Stand.arrayOver_alikeB hvm h
section VGM
variable {p : Program} {l : Launch} {e : Env} {R : Room} {s : State} {m : MethodId} {args : Array Value} {below : List Frame} {meth : Method} {c : Code} {H : Heap} {locs : List Loc} {cells slots : Nat} {Q : State → Prop}
variable {cc : ByteArray} {pc : Nat} {ls : Array Slot} {rest : List Value} {D : va_G} {cl : List vw_C} {A : Nat → Prop} {a : Nat} {tys : List (ClassId × FieldType)} {ws : va_W} {H0 : Heap}
theorem va_mna {X : va_W} {L : List Nat} {f : Nat → va_E} {cc : ByteArray} (hexec : p.tables.exec = Jvm.exec) (hb : c.code = cc) {own : String} {index : Nat} {ty : FieldType} {cy : ClassId} (hown : s.vm.findClass own = some m.cls) (hclink : (Cond.classLink own index ("[" ++ (FieldType.array ty).toString)).before args s = true) (hover : va_AOA ty s) (harr : (Cond.arrayClass ty).before args s = true) (hcy : s.vm.findClass (FieldType.array ty).toString = some cy)
    (hK : va_K D cl tys s) (hP : va_P D cl (X ++ va_pl L f) H) (hD : va_D A (X ++ va_pl L f)) (hS : va_S A H0 H locs) (hA : ∀ q, H0.size ≤ q → A q) {n k : Int32} {N' K' : Nat} {z : vp_A} (hn : ¬ n < 0) (hk : ¬ k < 0) (hN : n.toNatClampNeg = N') (hM : k.toNatClampNeg = K')
    (hb1 : N' * 4 ≤ 536870912) (hb2 : K' * componentBytes ty ≤ 536870912) (hb3 : K' ≤ 536870912) (hdf : fits ty (defaultValue ty) = true) (hdd : (defaultValue ty).isDefault = true) (hcells : cells + (1 + N') ≤ R.cells) (hslots : slots + (N' + N' * K') ≤ R.slots) (hz : ∀ c : ClassId, Jvm.Free.Multi.innerC c K' (defaultValue ty) = vp_cell c z) (hdg : decode cc pc = .ok (.multianewarray index 2, 4))
    (kk : ∀ (q : Nat) (r : Nat → Nat) (cA : ClassId) (H1 : Heap), (∀ i j : Nat, i < N' → j < N' → r i = r j → i = j) → (∀ i : Nat, i < N' → r i ∉ L) → va_K D cl (tys ++ [(cA, .array ty)]) s →
      va_P D cl ((X ++ [(q, .inl (cA, N', .inr (.inr (.inr (.inr (fun i => if i < N' then some (r i) else none))))))]) ++ va_pl (L ++ (List.range N').map r) (vr_up f ((List.range N').map r) (.inl (cy, z)))) H1 → va_D A ((X ++ [(q, .inl (cA, N', .inr (.inr (.inr (.inr (fun i => if i < N' then some (r i) else none))))))]) ++ va_pl (L ++ (List.range N').map r) (vr_up f ((List.range N').map r) (.inl (cy, z)))) → va_S A H0 H1 locs →
      W p l e R s m args below meth c H1 locs (cells + 1 + N') (slots + N' + N' * K') Q (F0 m (pc + 4) ls (.ref q :: rest))) : W p l e R s m args below meth c H locs cells slots Q (F0 m pc ls (.int k :: .int n :: rest)) := by
  subst hN
  subst hM
  intro T hT Xs
  obtain ⟨vm₁, cA, comp, -, fA, fC, hO, -, X', step⟩ := Xs.multianewarray2F hexec hown hclink (va_AOA.use hover) harr (g := F0 m pc ls (.int k :: .int n :: rest)) rfl (by rw [hb]; exact hdg) rfl hn hk hb1 hb2 hb3 hdf hdd hcells hslots
  have ec : some cy = some comp := hcy.symm.trans fC
  cases ec
  generalize hF : Jvm.Free.Multi.fill (T.setVm vm₁) cA cy n.toNatClampNeg k.toNatClampNeg (defaultValue ty) n.toNatClampNeg = F at X' step
  have hTh : (T.setVm vm₁).heap = H := hT
  obtain ⟨f1, f2, -, -⟩ := Jvm.Free.Multi.fill_facts (T.setVm vm₁) cA cy n.toNatClampNeg k.toNatClampNeg (defaultValue ty) n.toNatClampNeg
  rw [hF, hTh] at f1 f2
  have hold : ∀ x : Nat, x < H.size → F.heap[x]? = H[x]? := fun x hx => by
    have := Jvm.Free.Multi.fill_old (T.setVm vm₁) cA cy n.toNatClampNeg k.toNatClampNeg (defaultValue ty) (a := x) (by rw [hTh]; exact hx) n.toNatClampNeg
    rw [hF, hTh] at this
    exact this
  have hrow : ∀ j : Nat, j < n.toNatClampNeg → F.heap[H.size + 1 + j]? = some (vp_cell cy z) := fun j hj => by
    have := Jvm.Free.Multi.fill_inner (T.setVm vm₁) cA cy n.toNatClampNeg k.toNatClampNeg (defaultValue ty) n.toNatClampNeg j hj
    rw [hF, hTh, hz] at this
    exact this
  have hout : Jvm.Free.Multi.outerC cA n.toNatClampNeg H.size n.toNatClampNeg = vp_cell cA (n.toNatClampNeg, .inr (.inr (.inr (.inr (fun i => if i < n.toNatClampNeg then some (H.size + 1 + i) else none))))) := by
    rw [vp_cell_q]
    exact vr_outer cA n.toNatClampNeg H.size n.toNatClampNeg
  rw [hout] at f2
  have hlt : ∀ a, a ∈ L → a < H.size := fun a ha => by
    obtain ⟨k9, hk9⟩ := va_pl_get (X := X) (f := f) ha
    exact (hP k9 _ hk9).lt
  have hnl : ∀ i : Nat, i < n.toNatClampNeg → H.size + 1 + i ∉ L := fun i _ h => by
    have := hlt _ h
    omega
  have hnm : ∀ a, a ∈ (List.range n.toNatClampNeg).map (fun i => H.size + 1 + i) → a ∉ L := fun a ha h => by
    obtain ⟨i, -, rfl⟩ := List.mem_map.mp ha
    have := hlt _ h
    omega
  have hP0 : va_P D cl (X ++ va_pl L f) F.heap := hP.kept (fun k9 x hx => hold x.1 ((hP k9 x hx).lt))
  have hP1 : va_P D cl ((X ++ va_pl L f) ++ [(H.size, .inl (cA, n.toNatClampNeg, .inr (.inr (.inr (.inr (fun i => if i < n.toNatClampNeg then some (H.size + 1 + i) else none))))))]) F.heap := hP0.app (fun k9 x hx => by
    have h0 : k9 < 1 := (List.getElem?_eq_some_iff.mp hx).1
    rw [show k9 = 0 by omega] at hx
    cases hx
    exact f2)
  have hP2 : va_P D cl (((X ++ va_pl L f) ++ [(H.size, .inl (cA, n.toNatClampNeg, .inr (.inr (.inr (.inr (fun i => if i < n.toNatClampNeg then some (H.size + 1 + i) else none))))))]) ++ ((List.range n.toNatClampNeg).map (fun i => H.size + 1 + i)).map (fun a => (a, .inl (cy, z)))) F.heap := hP1.app (fun k9 x hx => by
    obtain ⟨a, ha, rfl⟩ := List.mem_map.mp (List.mem_of_getElem? hx)
    obtain ⟨i, hi, rfl⟩ := List.mem_map.mp ha
    exact hrow i (List.mem_range.mp hi))
  have hD2 : va_D A (((X ++ va_pl L f) ++ [(H.size, .inl (cA, n.toNatClampNeg, .inr (.inr (.inr (.inr (fun i => if i < n.toNatClampNeg then some (H.size + 1 + i) else none))))))]) ++ ((List.range n.toNatClampNeg).map (fun i => H.size + 1 + i)).map (fun a => (a, .inl (cy, z)))) := by
    have hD1 := hD.push (e := .inl (cA, n.toNatClampNeg, .inr (.inr (.inr (.inr (fun i => if i < n.toNatClampNeg then some (H.size + 1 + i) else none)))))) hP rfl (hA _ hS.1)
    generalize hW1 : (X ++ va_pl L f) ++ [(H.size, .inl (cA, n.toNatClampNeg, .inr (.inr (.inr (.inr (fun i => if i < n.toNatClampNeg then some (H.size + 1 + i) else none))))))] = W1 at hD1 hP1 ⊢
    have hle : ∀ (k9 : Nat) (x : Nat × va_E), W1[k9]? = some x → x.1 ≤ H.size := fun k9 x hx => by
      rw [← hW1] at hx
      by_cases hl : k9 < (X ++ va_pl L f).length
      · rw [List.getElem?_append_left hl] at hx
        exact Nat.le_of_lt ((hP k9 x hx).lt)
      · rw [List.getElem?_append_right (by omega)] at hx
        have h0 : k9 - (X ++ va_pl L f).length < 1 := (List.getElem?_eq_some_iff.mp hx).1
        rw [show k9 - (X ++ va_pl L f).length = 0 by omega] at hx
        cases hx
        exact Nat.le_refl _
    have hr : ∀ (k9 : Nat) (x : Nat × va_E), (((List.range n.toNatClampNeg).map (fun i => H.size + 1 + i)).map (fun a => ((a, .inl (cy, z)) : Nat × va_E)))[k9]? = some x → x.1 = H.size + 1 + k9 := fun k9 x hx => by
      rw [List.getElem?_map, List.getElem?_map] at hx
      by_cases h9 : k9 < n.toNatClampNeg
      · rw [List.getElem?_range h9] at hx
        cases hx
        rfl
      · have hn0 : (List.range n.toNatClampNeg)[k9]? = none := List.getElem?_eq_none (by rw [List.length_range]; omega)
        rw [hn0] at hx
        cases hx
    refine ⟨fun i j x y hi hj hxy => ?_, fun k9 x hx => ?_⟩
    · by_cases h1 : i < W1.length <;> by_cases h2 : j < W1.length
      · rw [List.getElem?_append_left h1] at hi
        rw [List.getElem?_append_left h2] at hj
        exact hD1.1 i j x y hi hj hxy
      · rw [List.getElem?_append_left h1] at hi
        rw [List.getElem?_append_right (by omega)] at hj
        have := hle _ _ hi
        have := hr _ _ hj
        omega
      · rw [List.getElem?_append_right (by omega)] at hi
        rw [List.getElem?_append_left h2] at hj
        have := hle _ _ hj
        have := hr _ _ hi
        omega
      · rw [List.getElem?_append_right (by omega)] at hi hj
        have := hr _ _ hi
        have := hr _ _ hj
        omega
    · by_cases h1 : k9 < W1.length
      · rw [List.getElem?_append_left h1] at hx
        exact hD1.2 k9 x hx
      · rw [List.getElem?_append_right (by omega)] at hx
        have := hr _ _ hx
        exact hA _ (by have := hS.1; omega)
  have hAr : ArrOfT s cA (.array ty) := fun N9 z9 => by
    obtain ⟨-, k9, hk9, cm9, hkk9⟩ := (hO 0 0 0).1
    exact ⟨(fun q hq => by cases hq), k9, hk9, cm9, hkk9⟩
  have hK2 : va_K D cl (tys ++ [(cA, .array ty)]) s := ⟨hK.1, fun k9 x hx => by
    by_cases hl : k9 < tys.length
    · rw [List.getElem?_append_left hl] at hx
      exact hK.2 k9 x hx
    · rw [List.getElem?_append_right (by omega)] at hx
      have h0 : k9 - tys.length < 1 := (List.getElem?_eq_some_iff.mp hx).1
      rw [show k9 - tys.length = 0 by omega] at hx
      cases hx
      exact ⟨hAr, fA⟩⟩
  obtain ⟨t, a1, b1⟩ := kk H.size (fun i => H.size + 1 + i) cA F.heap (fun i j _ _ h => by have h9 : H.size + 1 + i = H.size + 1 + j := h; omega) hnl hK2 (by rw [← vr_rows hnm]; exact vr_lay hP2) (by rw [← vr_rows hnm]; exact vr_layD hD2) ⟨by rw [f1]; have := hS.1; omega, fun x h1 h2 => (hold x (Nat.lt_of_lt_of_le h1 hS.1)).trans (hS.2.1 x h1 h2), hS.2.2⟩ F rfl X'
  refine ⟨t, step t ?_, b1⟩
  have e : T.heap.size = H.size := by rw [hT]
  rw [e]
  exact a1
end VGM
/-! ===== END ===== -/

/-! ===== BEGIN printed: names, fields, word lists, decode rows ===== -/
end
section
def RX0 : String := "SeatsRound$Acts"
def TX0 : u_T := fun k => match k with
  | 0 => ("SeatsRound$Acts", "bodies", "[I", true)
  | 1 => ("SeatsRound$Acts", "ran", "I", false)
  | 2 => ("SeatsRound$Acts", "own", "I", false)
  | 3 => ("SeatsRound$Acts", "number", "I", false)
  | _ => ("SeatsRound$Acts", "strength", "I", false)
def tyX0 : Nat → FieldType := fun k => match k with
  | 0 => .array .int
  | 1 => .int
  | 2 => .int
  | 3 => .int
  | _ => .int
def yX0_init : MethodName := ⟨RX0, "<init>", "()V"⟩
def RX1 : String := "SeatsRound$Choice"
def TX1 : u_T := fun k => match k with
  | 0 => ("SeatsRound$Choice", "picks", "[I", true)
  | 1 => ("SeatsRound$Choice", "chosen", "[I", true)
  | 2 => ("SeatsRound$Choice", "pickCount", "I", false)
  | 3 => ("SeatsRound$Choice", "chosenCount", "I", false)
  | 4 => ("SeatsRound$Choice", "chosenBits", "I", false)
  | 5 => ("SeatsRound$Choice", "streetBits", "I", false)
  | 6 => ("SeatsRound$Choice", "pickBits", "I", false)
  | 7 => ("SeatsRound$Choice", "sums", "[I", true)
  | _ => ("SeatsRound$Choice", "keepers", "LSeatsRound$Keepers;", true)
def tyX1 : Nat → FieldType := fun k => match k with
  | 0 => .array .int
  | 1 => .array .int
  | 2 => .int
  | 3 => .int
  | 4 => .int
  | 5 => .int
  | 6 => .int
  | 7 => .array .int
  | _ => .object "SeatsRound$Keepers"
def RX2 : String := "SeatsRound$Keepers"
def TX2 : u_T := fun k => match k with
  | 0 => ("SeatsRound$Keepers", "kind", "[I", true)
  | 1 => ("SeatsRound$Keepers", "street", "[I", true)
  | 2 => ("SeatsRound$Keepers", "strength", "[I", true)
  | 3 => ("SeatsRound$Keepers", "table", "[I", true)
  | 4 => ("SeatsRound$Keepers", "fallen", "[Z", true)
  | _ => ("SeatsRound$Keepers", "count", "I", false)
def tyX2 : Nat → FieldType := fun k => match k with
  | 0 => .array .int
  | 1 => .array .int
  | 2 => .array .int
  | 3 => .array .int
  | 4 => .array .boolean
  | _ => .int
def yX2_init : MethodName := ⟨RX2, "<init>", "()V"⟩
def RX3 : String := "SeatsRound$Law"
def TX3 : u_T := fun k => match k with
  | 0 => ("SeatsRound$Law", "text", "[B", false)
  | 1 => ("SeatsRound$Law", "length", "I", false)
  | 2 => ("SeatsRound$Law", "at", "I", false)
  | 3 => ("SeatsRound$Law", "fault", "I", false)
  | 4 => ("SeatsRound$Law", "members", "I", false)
  | 5 => ("SeatsRound$Law", "streetsIn", "I", false)
  | 6 => ("SeatsRound$Law", "weights", "I", false)
  | _ => ("SeatsRound$Law", "greatest", "I", false)
def tyX3 : Nat → FieldType := fun k => match k with
  | 0 => .array .byte
  | 1 => .int
  | 2 => .int
  | 3 => .int
  | 4 => .int
  | 5 => .int
  | 6 => .int
  | _ => .int
def yX3_init : MethodName := ⟨RX3, "<init>", "()V"⟩
def RX4 : String := "SeatsRound$NameList"
def TX4 : u_T := fun k => match k with
  | 0 => ("SeatsRound$NameList", "bytes", "[[B", true)
  | 1 => ("SeatsRound$NameList", "size", "[I", true)
  | 2 => ("SeatsRound$NameList", "read", "[B", true)
  | _ => ("SeatsRound$NameList", "count", "I", false)
def tyX4 : Nat → FieldType := fun k => match k with
  | 0 => .array (.array .byte)
  | 1 => .array .int
  | 2 => .array .byte
  | _ => .int
def yX4_init : MethodName := ⟨RX4, "<init>", "()V"⟩
def RX5 : String := "SeatsRound$Orders"
def TX5 : u_T := fun k => match k with
  | 0 => ("SeatsRound$Orders", "told", "[I", true)
  | 1 => ("SeatsRound$Orders", "toldCount", "I", false)
  | 2 => ("SeatsRound$Orders", "path", "[I", true)
  | 3 => ("SeatsRound$Orders", "pathLength", "I", false)
  | 4 => ("SeatsRound$Orders", "holders", "[[I", true)
  | 5 => ("SeatsRound$Orders", "least", "[I", true)
  | 6 => ("SeatsRound$Orders", "keepers", "LSeatsRound$Keepers;", true)
  | 7 => ("SeatsRound$Orders", "nameList", "LSeatsRound$NameList;", true)
  | 8 => ("SeatsRound$Orders", "choice", "LSeatsRound$Choice;", true)
  | _ => ("SeatsRound$Orders", "law", "LSeatsRound$Law;", true)
def tyX5 : Nat → FieldType := fun k => match k with
  | 0 => .array .int
  | 1 => .int
  | 2 => .array .int
  | 3 => .int
  | 4 => .array (.array .int)
  | 5 => .array .int
  | 6 => .object "SeatsRound$Keepers"
  | 7 => .object "SeatsRound$NameList"
  | 8 => .object "SeatsRound$Choice"
  | _ => .object "SeatsRound$Law"
def RX6 : String := "SeatsRound$Parcels"
def TX6 : u_T := fun k => match k with
  | 0 => ("SeatsRound$Parcels", "version", "[[I", true)
  | 1 => ("SeatsRound$Parcels", "kept", "[[I", true)
  | 2 => ("SeatsRound$Parcels", "keptFor", "[[I", true)
  | 3 => ("SeatsRound$Parcels", "pieces", "[[I", true)
  | 4 => ("SeatsRound$Parcels", "pieceTo", "[[I", true)
  | 5 => ("SeatsRound$Parcels", "latest", "[I", true)
  | 6 => ("SeatsRound$Parcels", "oneTree", "[I", true)
  | 7 => ("SeatsRound$Parcels", "otherTree", "[I", true)
  | 8 => ("SeatsRound$Parcels", "writings", "I", false)
  | 9 => ("SeatsRound$Parcels", "keepers", "LSeatsRound$Keepers;", true)
  | 10 => ("SeatsRound$Parcels", "nameList", "LSeatsRound$NameList;", true)
  | _ => ("SeatsRound$Parcels", "choice", "LSeatsRound$Choice;", true)
def tyX6 : Nat → FieldType := fun k => match k with
  | 0 => .array (.array .int)
  | 1 => .array (.array .int)
  | 2 => .array (.array .int)
  | 3 => .array (.array .int)
  | 4 => .array (.array .int)
  | 5 => .array .int
  | 6 => .array .int
  | 7 => .array .int
  | 8 => .int
  | 9 => .object "SeatsRound$Keepers"
  | 10 => .object "SeatsRound$NameList"
  | _ => .object "SeatsRound$Choice"
def RX7 : String := "SeatsRound$Rows"
def TX7 : u_T := fun k => match k with
  | 0 => ("SeatsRound$Rows", "keeper", "[I", true)
  | 1 => ("SeatsRound$Rows", "sort", "[I", true)
  | 2 => ("SeatsRound$Rows", "length", "[I", true)
  | _ => ("SeatsRound$Rows", "elements", "[[J", true)
def tyX7 : Nat → FieldType := fun k => match k with
  | 0 => .array .int
  | 1 => .array .int
  | 2 => .array .int
  | _ => .array (.array .long)
def RX8 : String := "SeatsRound$Table"
def TX8 : u_T := fun k => match k with
  | 0 => ("SeatsRound$Table", "members", "I", false)
  | 1 => ("SeatsRound$Table", "turn", "I", false)
  | 2 => ("SeatsRound$Table", "copies", "I", false)
  | 3 => ("SeatsRound$Table", "streets", "I", false)
  | 4 => ("SeatsRound$Table", "way", "I", false)
  | 5 => ("SeatsRound$Table", "seats", "I", false)
  | 6 => ("SeatsRound$Table", "lawLength", "I", false)
  | 7 => ("SeatsRound$Table", "oddsCounted", "Z", false)
  | 8 => ("SeatsRound$Table", "weight", "[I", true)
  | 9 => ("SeatsRound$Table", "odds", "[I", true)
  | 10 => ("SeatsRound$Table", "law", "[B", true)
  | 11 => ("SeatsRound$Table", "owner", "[B", true)
  | _ => ("SeatsRound$Table", "ahead", "[S", true)
def tyX8 : Nat → FieldType := fun k => match k with
  | 0 => .int
  | 1 => .int
  | 2 => .int
  | 3 => .int
  | 4 => .int
  | 5 => .int
  | 6 => .int
  | 7 => .boolean
  | 8 => .array .int
  | 9 => .array .int
  | 10 => .array .byte
  | 11 => .array .byte
  | _ => .array .short
def yX8_init : MethodName := ⟨RX8, "<init>", "()V"⟩
def RX9 : String := "SeatsRound$Tape"
def TX9 : u_T := fun k => match k with
  | 0 => ("SeatsRound$Tape", "bytes", "[B", true)
  | _ => ("SeatsRound$Tape", "length", "I", false)
def tyX9 : Nat → FieldType := fun k => match k with
  | 0 => .array .byte
  | _ => .int
abbrev wsX90 : List Cond := u_ws RX9 TX9 2
theorem nmX9 : ∀ a, a < 2 → ∀ b, b < 2 → a ≠ b → (TX9 a).2.1 ≠ (TX9 b).2.1 := by decide +kernel
theorem tyX9_ok : ∀ k, k < 2 → parseFieldDescriptor (TX9 k).2.2.1 = some (tyX9 k) := by decide +kernel
abbrev cX9_init : ByteArray := prog_11_method_1_code
def yX9_init : MethodName := ⟨RX9, "<init>", "()V"⟩
def RX10 : String := "SeatsRound$Turnings"
def TX10 : u_T := fun k => match k with
  | 0 => ("SeatsRound$Turnings", "told", "[I", true)
  | 1 => ("SeatsRound$Turnings", "count", "I", false)
  | 2 => ("SeatsRound$Turnings", "greatest", "I", false)
  | 3 => ("SeatsRound$Turnings", "shares", "[I", true)
  | _ => ("SeatsRound$Turnings", "nameList", "LSeatsRound$NameList;", true)
def tyX10 : Nat → FieldType := fun k => match k with
  | 0 => .array .int
  | 1 => .int
  | 2 => .int
  | 3 => .array .int
  | _ => .object "SeatsRound$NameList"
def RX11 : String := "SeatsRound"
def TX11 : u_T := fun k => match k with
  | 0 => ("SeatsRound", "tape", "LSeatsRound$Tape;", true)
  | 1 => ("SeatsRound", "nameList", "LSeatsRound$NameList;", true)
  | 2 => ("SeatsRound", "keepers", "LSeatsRound$Keepers;", true)
  | 3 => ("SeatsRound", "law", "LSeatsRound$Law;", true)
  | 4 => ("SeatsRound", "choice", "LSeatsRound$Choice;", true)
  | 5 => ("SeatsRound", "tables", "[LSeatsRound$Table;", true)
  | 6 => ("SeatsRound", "tableCount", "I", false)
  | 7 => ("SeatsRound", "draft", "LSeatsRound$Table;", true)
  | 8 => ("SeatsRound", "parcels", "LSeatsRound$Parcels;", true)
  | 9 => ("SeatsRound", "orders", "LSeatsRound$Orders;", true)
  | 10 => ("SeatsRound", "turnings", "LSeatsRound$Turnings;", true)
  | 11 => ("SeatsRound", "acts", "LSeatsRound$Acts;", true)
  | _ => ("SeatsRound", "rows", "LSeatsRound$Rows;", true)
def tyX11 : Nat → FieldType := fun k => match k with
  | 0 => .object "SeatsRound$Tape"
  | 1 => .object "SeatsRound$NameList"
  | 2 => .object "SeatsRound$Keepers"
  | 3 => .object "SeatsRound$Law"
  | 4 => .object "SeatsRound$Choice"
  | 5 => .array (.object "SeatsRound$Table")
  | 6 => .int
  | 7 => .object "SeatsRound$Table"
  | 8 => .object "SeatsRound$Parcels"
  | 9 => .object "SeatsRound$Orders"
  | 10 => .object "SeatsRound$Turnings"
  | 11 => .object "SeatsRound$Acts"
  | _ => .object "SeatsRound$Rows"
def yX11_strewn : MethodName := ⟨RX11, "strewn", "(I)I"⟩
def yX11_placeBehind : MethodName := ⟨RX11, "placeBehind", "(I)I"⟩
def RX12 : String := "SeatsRoundModel"
def TX12 : u_T := fun k => match k with
  | 0 => ("SeatsRoundModel", "names", "I", false)
  | 1 => ("SeatsRoundModel", "nameSize", "[I", true)
  | 2 => ("SeatsRoundModel", "nameByte", "[I", true)
  | 3 => ("SeatsRoundModel", "keepers", "I", false)
  | 4 => ("SeatsRoundModel", "street", "[I", true)
  | 5 => ("SeatsRoundModel", "strength", "[I", true)
  | 6 => ("SeatsRoundModel", "kind", "[I", true)
  | 7 => ("SeatsRoundModel", "known", "[I", true)
  | 8 => ("SeatsRoundModel", "isFallen", "[Z", true)
  | 9 => ("SeatsRoundModel", "tables", "I", false)
  | 10 => ("SeatsRoundModel", "tableOf", "[I", true)
  | 11 => ("SeatsRoundModel", "tableZ", "[I", true)
  | 12 => ("SeatsRoundModel", "copies", "[I", true)
  | 13 => ("SeatsRoundModel", "streets", "[I", true)
  | 14 => ("SeatsRoundModel", "picks", "[I", true)
  | 15 => ("SeatsRoundModel", "lawSize", "[I", true)
  | 16 => ("SeatsRoundModel", "lawByte", "[I", true)
  | 17 => ("SeatsRoundModel", "counts", "[I", true)
  | 18 => ("SeatsRoundModel", "streetIn", "[I", true)
  | 19 => ("SeatsRoundModel", "seatMany", "[I", true)
  | 20 => ("SeatsRoundModel", "seats", "[I", true)
  | 21 => ("SeatsRoundModel", "tape", "[I", true)
  | 22 => ("SeatsRoundModel", "taped", "I", false)
  | 23 => ("SeatsRoundModel", "version", "[I", true)
  | 24 => ("SeatsRoundModel", "kept", "[I", true)
  | 25 => ("SeatsRoundModel", "keptFor", "[I", true)
  | 26 => ("SeatsRoundModel", "pieces", "[I", true)
  | 27 => ("SeatsRoundModel", "piecesTo", "[I", true)
  | 28 => ("SeatsRoundModel", "written", "[I", true)
  | 29 => ("SeatsRoundModel", "writings", "I", false)
  | 30 => ("SeatsRoundModel", "comers", "I", false)
  | 31 => ("SeatsRoundModel", "comer", "[I", true)
  | 32 => ("SeatsRoundModel", "orderMany", "I", false)
  | 33 => ("SeatsRoundModel", "orderTold", "[I", true)
  | 34 => ("SeatsRoundModel", "turnings", "I", false)
  | 35 => ("SeatsRoundModel", "turning", "[I", true)
  | 36 => ("SeatsRoundModel", "harmShare", "I", false)
  | 37 => ("SeatsRoundModel", "trace", "[I", true)
  | 38 => ("SeatsRoundModel", "bodies", "I", false)
  | 39 => ("SeatsRoundModel", "shelfIs", "[I", true)
  | 40 => ("SeatsRoundModel", "shelfSort", "[I", true)
  | 41 => ("SeatsRoundModel", "shelfSize", "[I", true)
  | 42 => ("SeatsRoundModel", "elements", "[J", true)
  | 43 => ("SeatsRoundModel", "told", "[I", true)
  | 44 => ("SeatsRoundModel", "lawTable", "I", false)
  | 45 => ("SeatsRoundModel", "at", "I", false)
  | 46 => ("SeatsRoundModel", "opens", "I", false)
  | 47 => ("SeatsRoundModel", "isFaulty", "Z", false)
  | 48 => ("SeatsRoundModel", "nowN", "I", false)
  | 49 => ("SeatsRoundModel", "nowU", "I", false)
  | 50 => ("SeatsRoundModel", "nowT", "I", false)
  | 51 => ("SeatsRoundModel", "nowX", "I", false)
  | 52 => ("SeatsRoundModel", "picked", "[I", true)
  | 53 => ("SeatsRoundModel", "pickedMany", "I", false)
  | 54 => ("SeatsRoundModel", "chosen", "[I", true)
  | 55 => ("SeatsRoundModel", "chosenMany", "I", false)
  | 56 => ("SeatsRoundModel", "odds", "[I", true)
  | 57 => ("SeatsRoundModel", "keepsBy", "[I", true)
  | _ => ("SeatsRoundModel", "tried", "[I", true)
def tyX12 : Nat → FieldType := fun k => match k with
  | 0 => .int
  | 1 => .array .int
  | 2 => .array .int
  | 3 => .int
  | 4 => .array .int
  | 5 => .array .int
  | 6 => .array .int
  | 7 => .array .int
  | 8 => .array .boolean
  | 9 => .int
  | 10 => .array .int
  | 11 => .array .int
  | 12 => .array .int
  | 13 => .array .int
  | 14 => .array .int
  | 15 => .array .int
  | 16 => .array .int
  | 17 => .array .int
  | 18 => .array .int
  | 19 => .array .int
  | 20 => .array .int
  | 21 => .array .int
  | 22 => .int
  | 23 => .array .int
  | 24 => .array .int
  | 25 => .array .int
  | 26 => .array .int
  | 27 => .array .int
  | 28 => .array .int
  | 29 => .int
  | 30 => .int
  | 31 => .array .int
  | 32 => .int
  | 33 => .array .int
  | 34 => .int
  | 35 => .array .int
  | 36 => .int
  | 37 => .array .int
  | 38 => .int
  | 39 => .array .int
  | 40 => .array .int
  | 41 => .array .int
  | 42 => .array .long
  | 43 => .array .int
  | 44 => .int
  | 45 => .int
  | 46 => .int
  | 47 => .boolean
  | 48 => .int
  | 49 => .int
  | 50 => .int
  | 51 => .int
  | 52 => .array .int
  | 53 => .int
  | 54 => .array .int
  | 55 => .int
  | 56 => .array .int
  | 57 => .array .int
  | _ => .array .int
def wsX9_init : List Cond := .code yX9_init cX9_init 1 none :: ([.methodLink RX9 3 objectInit, .instanceMethod objectInit, .code objectInit ⟨#[0xb1]⟩ 1 none, .arrayClass .byte, .fieldLink RX9 9 "SeatsRound$Tape" "bytes" "[B", .fieldLink RX9 15 "SeatsRound$Tape" "length" "I"] ++ wsX90)
theorem dX9_init_0 : decode cX9_init 0 = .ok (.aload_n 0, 1) := by decide +kernel
theorem dX9_init_1 : decode cX9_init 1 = .ok (.invokespecial 3, 3) := by decide +kernel
theorem dX9_init_4 : decode cX9_init 4 = .ok (.aload_n 0, 1) := by decide +kernel
theorem dX9_init_5 : decode cX9_init 5 = .ok (.bipush 80, 2) := by decide +kernel
theorem dX9_init_7 : decode cX9_init 7 = .ok (.newarray .byte, 2) := by decide +kernel
theorem dX9_init_9 : decode cX9_init 9 = .ok (.putfield 9, 3) := by decide +kernel
theorem dX9_init_12 : decode cX9_init 12 = .ok (.aload_n 0, 1) := by decide +kernel
theorem dX9_init_13 : decode cX9_init 13 = .ok (.iconst 0, 1) := by decide +kernel
theorem dX9_init_14 : decode cX9_init 14 = .ok (.putfield 15, 3) := by decide +kernel
theorem dX9_init_17 : decode cX9_init 17 = .ok (.return_, 1) := by decide +kernel
abbrev vwCl : List vw_C := [(RX0, TX0, 5), (RX1, TX1, 9), (RX2, TX2, 6), (RX3, TX3, 8), (RX4, TX4, 4), (RX5, TX5, 10), (RX6, TX6, 12), (RX7, TX7, 4), (RX8, TX8, 13), (RX9, TX9, 2), (RX10, TX10, 5), (RX11, TX11, 13), (RX12, TX12, 59)]
end
section
/-- the array classes by their places: 0 int, 1 byte, 2 boolean, 3 short, 4 long, 5 byte[][], 6 int[][], 7 long[][], 8 Table[] -/
def tyl (cy : Nat → ClassId) : List (ClassId × FieldType) := [(cy 0, .int), (cy 1, .byte), (cy 2, .boolean), (cy 3, .short), (cy 4, .long), (cy 5, .array .byte), (cy 6, .array .int), (cy 7, .array .long), (cy 8, .object "SeatsRound$Table")]
def nwl : List Cond := [.methodLinkNest RX11 9 yX9_init RX11, .methodLinkNest RX11 18 yX4_init RX11, .methodLinkNest RX11 25 yX2_init RX11, .methodLinkNest RX11 32 yX3_init RX11, .methodLinkNest RX11 56 yX8_init RX11, .methodLinkNest RX11 90 yX0_init RX11, .methodLinkNest RX8 87 yX11_strewn RX11, .methodLinkNest RX8 96 yX11_placeBehind RX11, .methodLinkNest RX1 78 yX11_placeBehind RX11]
/-- what the tables say of private members of nest mates and of arrays over classes -/
def NW (U : State) : Prop := (∀ w ∈ nwl, va_Nw w U) ∧ va_AO "SeatsRound$Table" U ∧ va_AOA .byte U ∧ va_AOA .int U ∧ va_AOA .long U
theorem nwl_all (P : Cond → Prop) (h : ∀ a i y b, Cond.methodLinkNest a i y b ∈ nwl → P (.methodLinkNest a i y b)) : ∀ w ∈ nwl, P w := by
  intro w hw
  have hw2 := hw
  simp only [nwl, List.mem_cons, List.not_mem_nil, or_false] at hw2
  rcases hw2 with rfl | rfl | rfl | rfl | rfl | rfl | rfl | rfl | rfl <;> exact h _ _ _ _ hw
theorem NW.warm {s U : State} (hW : s.WarmedH U.vm) (h : NW s) : NW U :=
  ⟨nwl_all _ (fun _ _ _ _ hm => va_Nw.warmM hW (h.1 _ hm)), h.2.1.moved hW.alike, h.2.2.1.moved hW.alike, h.2.2.2.1.moved hW.alike, h.2.2.2.2.moved hW.alike⟩
theorem NW.same {u U : State} (hv : u.vm = U.vm) (h : NW u) : NW U := by
  have ha : u.vm.Alike U.vm := by rw [hv]; exact Vm.Alike.refl U.vm
  exact ⟨nwl_all _ (fun _ _ _ _ hm => va_Nw.same rfl hv (h.1 _ hm)), h.2.1.moved ha, h.2.2.1.moved ha, h.2.2.2.1.moved ha, h.2.2.2.2.moved ha⟩
def wPre (D : va_G) (cy : Nat → ClassId) (ws : va_W) (sz : Nat) (U : State) : Prop := U.heap.size = sz ∧ va_P D vwCl ws U.heap ∧ va_K D vwCl (tyl cy) U ∧ va_D (fun _ => True) ws ∧ NW U
def wAt (D : va_G) (A : Nat → Prop) (ws : va_W) (t : State) : Prop := va_P D vwCl ws t.heap ∧ va_D A ws
theorem wp_blind {av : List Value} {D : va_G} {cy : Nat → ClassId} {ws : va_W} {sz : Nat} : FrameBlind (va_Pc av (wPre D cy ws sz)) := fun a U g mk q => by
  obtain ⟨q0, q1, qP, qK, qD, qN⟩ := q
  exact ⟨q0, q1, qP, va_K.moved (u := U) (U := U.calling g mk a) (Vm.Alike.refl U.vm) qK, qD, NW.same (u := U) (U := U.calling g mk a) rfl qN⟩
theorem wp_V {s : State} {H : Heap} {C : String} {b : Addr} {As : List Value} {D : va_G} {cy : Nat → ClassId} {ws : va_W} {A : Nat → Prop} (hK : va_K D vwCl (tyl cy) s) (hN : NW s) (hP : va_P D vwCl ws H) (hD : va_D A ws) (hr : ∃ cellB : Cell, H[b]? = some cellB ∧ cellB.vm.isStatics = false ∧ s.vm.findClass C = some cellB.cls) : PreV s H C b (va_Pc (.ref b :: As) (wPre D cy ws H.size)) As :=
  ⟨wp_blind, hr, fun U hU hW => ⟨rfl, by rw [hU], by rw [hU]; exact hP, va_K.moved hW.alike hK, hD.weaken (fun _ _ _ _ => trivial), hN.warm hW⟩⟩
theorem wp_S {s : State} {H : Heap} {As : List Value} {D : va_G} {cy : Nat → ClassId} {ws : va_W} {A : Nat → Prop} (hK : va_K D vwCl (tyl cy) s) (hN : NW s) (hP : va_P D vwCl ws H) (hD : va_D A ws) : PreS s H (va_Pc As (wPre D cy ws H.size)) As :=
  ⟨wp_blind, fun U hU hW => ⟨rfl, by rw [hU], by rw [hU]; exact hP, va_K.moved hW.alike hK, hD.weaken (fun _ _ _ _ => trivial), hN.warm hW⟩⟩
theorem va_P.take {D : va_G} {cl : List vw_C} {ws : va_W} {H : Heap} (k : Nat) (h : va_P D cl ws H) : va_P D cl (ws.take k) H := fun i q hq => by
  rw [List.getElem?_take] at hq
  split at hq
  · exact h i q hq
  · cases hq
theorem va_D.take {A : Nat → Prop} {ws : va_W} (k : Nat) (h : va_D A ws) : va_D A (ws.take k) := by
  have hh : ∀ (i : Nat) (q : Nat × va_E), (ws.take k)[i]? = some q → ws[i]? = some q := fun i q hq => by
    rw [List.getElem?_take] at hq
    split at hq
    · exact hq
    · cases hq
  exact ⟨fun i j p q hi hj e => h.1 i j p q (hh i p hi) (hh j q hj) e, fun i q hi => h.2 i q (hh i q hi)⟩
theorem va_RA_one {U : State} {a b : ClassId} {ty : FieldType} (h1 : va_RA U a ty) (h2 : va_RA U b ty) : a = b := by
  cases ty with
  | object C =>
    obtain ⟨_, _, _, _, _, e1⟩ := h1
    obtain ⟨_, _, _, _, _, e2⟩ := h2
    exact Option.some.inj (e1.symm.trans e2)
  | _ => exact Option.some.inj (Eq.trans (Eq.symm h1) h2)
section VZ
variable {p : Program} {l : Launch} {e : Env} {R : Room} {s : State} {m : MethodId} {args : Array Value} {below : List Frame} {meth : Method} {c : Code} {H : Heap} {locs : List Loc} {cells slots : Nat} {Q : State → Prop}
variable {cc : ByteArray} {pc : Nat} {ls : Array Slot} {rest : List Value} {D : va_G} {cl : List vw_C} {A : Nat → Prop} {a : Nat} {tys : List (ClassId × FieldType)} {ws : va_W} {H0 : Heap}
theorem vz_callSi {post : Int32 → Prop} {a : Array Value} {st0 : List Value} (hr : va_Run p l e R s m args below meth c H locs cells slots 0 0 (F0 m pc ls st0) rest (vp_Si post a) (fun _ => False))
    (kk : ∀ r : Int32, post r → W p l e R s m args below meth c H locs cells slots Q (F0 m (pc + 3) ls (.int r :: rest))) : W p l e R s m args below meth c H locs cells slots Q (F0 m pc ls st0) := by
  intro T hT X
  obtain ⟨v, st₀, t, T', L, h0, X', hL, e1, e2, ⟨r, hv, hp, hh⟩, st⟩ := hr T hT X
  cases hv
  obtain ⟨t2, a1, b1⟩ := kk r hp T' (by rw [e1, hh, h0]) (Stand.forget X' (fun q h => (hL q h).elim))
  exact ⟨t2, st t2 a1, b1⟩
theorem vz_callSq {post : Option Nat → Prop} {a : Array Value} {st0 : List Value} (hr : va_Run p l e R s m args below meth c H locs cells slots 0 0 (F0 m pc ls st0) rest (va_Sq post a) (fun _ => False))
    (kk : ∀ r : Option Nat, post r → W p l e R s m args below meth c H locs cells slots Q (F0 m (pc + 3) ls (va_rf r :: rest))) : W p l e R s m args below meth c H locs cells slots Q (F0 m pc ls st0) := by
  intro T hT X
  obtain ⟨v, st₀, t, T', L, h0, X', hL, e1, e2, ⟨r, hv, hp, hh⟩, st⟩ := hr T hT X
  cases hv
  obtain ⟨t2, a1, b1⟩ := kk r hp T' (by rw [e1, hh, h0]) (Stand.forget X' (fun q h => (hL q h).elim))
  exact ⟨t2, st t2 a1, b1⟩
theorem vz_last {t0 : Nat} {cA cB : ClassId} {ty : FieldType} (hK : va_K D cl tys s) (ht : tys[t0]? = some (cA, ty)) (hK1 : va_K D cl (tys ++ [(cB, ty)]) s) : cB = cA :=
  va_RA_one (hK1.2 tys.length (cB, ty) (by simp)).2 (hK.2 t0 _ ht).2
theorem vz_newa (hexec : p.tables.exec = Jvm.exec) (hb : c.code = cc) {atype : ArrayType} {t0 : Nat} {cA : ClassId} (harr : (Cond.arrayClass (newarray.typeOf atype)).before args s = true) {ty : FieldType} (hty : newarray.typeOf atype = ty) (ht : tys[t0]? = some (cA, ty)) (hK : va_K D cl tys s) (hP : va_P D cl ws H) (hD : va_D A ws) (hS : va_S A H0 H locs) (hA : ∀ q, H0.size ≤ q → A q)
    {n : Int32} {N' : Nat} {a0 : vp_A} (ha : ∀ cA : ClassId, vp_cell cA a0 = arrV cA N' (fun _ => defaultValue ty)) (hn : ¬ n < 0) (hN : n.toNatClampNeg = N') (hbytes : N' * componentBytes ty ≤ 536870912) (hcells : cells + 1 ≤ R.cells) (hslots : slots + N' ≤ R.slots) (hdg : decode cc pc = .ok (.newarray atype, 2))
    (kk : ∀ (q : Nat) (H1 : Heap), va_P D cl (ws ++ [(q, .inl (cA, a0))]) H1 → va_D A (ws ++ [(q, .inl (cA, a0))]) → va_S A H0 H1 locs →
      W p l e R s m args below meth c H1 locs (cells + 1) (slots + N') Q (F0 m (pc + 2) ls (.ref q :: rest))) : W p l e R s m args below meth c H locs cells slots Q (F0 m pc ls (.int n :: rest)) := by
  refine va_newa hexec hb harr hty hK hP hD hS hA ha hn hN hbytes hcells hslots hdg (fun q cB H1 hK1 hP1 hD1 hS1 => ?_)
  have e9 := vz_last hK ht hK1
  subst e9
  exact kk q H1 hP1 hD1 hS1
theorem vz_newq (hexec : p.tables.exec = Jvm.exec) (hb : c.code = cc) {own C : String} {index t0 : Nat} {cA : ClassId} (hown : s.vm.findClass own = some m.cls) (hclink : (Cond.classLink own index C).before args s = true) (hover : va_AO C s) (ht : tys[t0]? = some (cA, .object C)) (hK : va_K D cl tys s) (hP : va_P D cl ws H) (hD : va_D A ws) (hS : va_S A H0 H locs) (hA : ∀ q, H0.size ≤ q → A q)
    {n : Int32} {N' : Nat} (hn : ¬ n < 0) (hN : n.toNatClampNeg = N') (hbytes : N' * 4 ≤ 536870912) (hcells : cells + 1 ≤ R.cells) (hslots : slots + N' ≤ R.slots) (hdg : decode cc pc = .ok (.anewarray index, 3))
    (kk : ∀ (q : Nat) (H1 : Heap), va_P D cl (ws ++ [(q, .inl (cA, N', .inr (.inr (.inr (.inr (fun _ => none))))))]) H1 → va_D A (ws ++ [(q, .inl (cA, N', .inr (.inr (.inr (.inr (fun _ => none))))))]) → va_S A H0 H1 locs →
      W p l e R s m args below meth c H1 locs (cells + 1) (slots + N') Q (F0 m (pc + 3) ls (.ref q :: rest))) : W p l e R s m args below meth c H locs cells slots Q (F0 m pc ls (.int n :: rest)) := by
  refine va_newq hexec hb hown hclink hover hK hP hD hS hA hn hN hbytes hcells hslots hdg (fun q cB H1 hK1 hP1 hD1 hS1 => ?_)
  have e9 := vz_last hK ht hK1
  subst e9
  exact kk q H1 hP1 hD1 hS1
theorem vz_mna (hexec : p.tables.exec = Jvm.exec) (hb : c.code = cc) {own : String} {index t0 t1 : Nat} {ty : FieldType} {cA cy : ClassId} (hown : s.vm.findClass own = some m.cls) (hclink : (Cond.classLink own index ("[" ++ (FieldType.array ty).toString)).before args s = true) (hover : va_AOA ty s) (harr : (Cond.arrayClass ty).before args s = true) (ht : tys[t0]? = some (cA, .array ty)) (hcy : s.vm.findClass (FieldType.array ty).toString = some cy)
    (hK : va_K D cl tys s) (hP : va_P D cl ws H) (hD : va_D A ws) (hS : va_S A H0 H locs) (hA : ∀ q, H0.size ≤ q → A q) {n k : Int32} {N' K' : Nat} {z : vp_A} (hn : ¬ n < 0) (hk : ¬ k < 0) (hN : n.toNatClampNeg = N') (hM : k.toNatClampNeg = K')
    (hb1 : N' * 4 ≤ 536870912) (hb2 : K' * componentBytes ty ≤ 536870912) (hb3 : K' ≤ 536870912) (hdf : fits ty (defaultValue ty) = true) (hdd : (defaultValue ty).isDefault = true) (hcells : cells + (1 + N') ≤ R.cells) (hslots : slots + (N' + N' * K') ≤ R.slots) (hz : ∀ c : ClassId, Jvm.Free.Multi.innerC c K' (defaultValue ty) = vp_cell c z) (hdg : decode cc pc = .ok (.multianewarray index 2, 4))
    (kk : ∀ (q : Nat) (r : Nat → Nat) (H1 : Heap), va_P D cl (ws ++ ((q, .inl (cA, N', .inr (.inr (.inr (.inr (fun i => if i < N' then some (r i) else none)))))) :: (List.range N').map (fun i => (r i, .inl (cy, z))))) H1 → va_D A (ws ++ ((q, .inl (cA, N', .inr (.inr (.inr (.inr (fun i => if i < N' then some (r i) else none)))))) :: (List.range N').map (fun i => (r i, .inl (cy, z))))) → va_S A H0 H1 locs →
      W p l e R s m args below meth c H1 locs (cells + 1 + N') (slots + N' + N' * K') Q (F0 m (pc + 4) ls (.ref q :: rest))) : W p l e R s m args below meth c H locs cells slots Q (F0 m pc ls (.int k :: .int n :: rest)) := by
  have h0 : ws ++ va_pl [] (fun _ => .inl (cy, z)) = ws := List.append_nil ws
  refine va_mna (X := ws) (L := []) (f := fun _ => .inl (cy, z)) hexec hb hown hclink hover harr hcy hK (by rw [h0]; exact hP) (by rw [h0]; exact hD) hS hA hn hk hN hM hb1 hb2 hb3 hdf hdd hcells hslots hz hdg (fun q r cB H1 _ _ hK1 hP1 hD1 hS1 => ?_)
  have e9 := vz_last hK ht hK1
  subst e9
  have e8 : va_pl ([] ++ (List.range N').map r) (vr_up (fun _ => .inl (cy, z)) ((List.range N').map r) (.inl (cy, z))) = (List.range N').map (fun i => (r i, (.inl (cy, z) : va_E))) := by
    unfold va_pl
    rw [List.nil_append, List.map_map]
    refine List.map_congr_left (fun i hi => ?_)
    exact congrArg (fun x : va_E => (r i, x)) (vr_up_in (List.mem_map.mpr ⟨i, hi, rfl⟩))
  rw [e8, List.append_assoc] at hP1 hD1
  exact kk q r H1 hP1 hD1 hS1
theorem vz_aldg (hexec : p.tables.exec = Jvm.exec) (hb : c.code = cc) (hK : va_K D cl tys s) (hP : va_P D cl ws H) (q0 t0 : Nat) {cA : ClassId} {ty : FieldType} {n y : Nat} {f : Nat → Option Nat} (ha : ws[q0]? = some (a, .inl (cA, n, .inr (.inr (.inr (.inr f)))))) (ht : tys[t0]? = some (cA, .array ty)) {i : Int32} (hin : vp_in i n) (hy : f i.toNatClampNeg = some y) (hdg : decode cc pc = .ok (.aaload, 1))
    (kk : W p l e R s m args below meth c H locs cells slots Q (F0 m (pc + 1) ls (.ref y :: rest))) : W p l e R s m args below meth c H locs cells slots Q (F0 m pc ls (.int i :: .ref a :: rest)) := by
  have hlt : i.toNatClampNeg < n := Nat.not_le.mp fun q => hin (Or.inr q)
  refine W.aald (v := .ref y) (ty := .array ty) hexec hb (hP q0 _ ha) ((hK.2 t0 _ ht).1 n (fun j => va_rf (f j))) rfl (fun q => by cases q) (by show ¬ (i < 0 ∨ (arrV _ _ _).slots.size ≤ _); rw [arrV_size]; exact hin) (by show (arrV _ _ _).slots[_]? = _; rw [arrV_read _ _ hlt, hy]; rfl) rfl rfl hdg kk
end VZ
theorem vz_sw (n : Nat) (x : Int32) : (∃ j : Nat, j ≤ n ∧ x = nI j) ∨ (x.toInt < (0 : Int) ∨ (n : Int) < x.toInt) := by
  by_cases h : x.toInt < 0
  · exact Or.inr (Or.inl h)
  · by_cases h2 : (n : Int) < x.toInt
    · exact Or.inr (Or.inr h2)
    · refine Or.inl ⟨x.toInt.toNat, by omega, ?_⟩
      obtain ⟨j, hj, rfl⟩ := nI_of (x := x) (fun q => h (by simpa [Int32.lt_iff_toInt_lt] using q))
      rw [nI_toInt hj]
      rfl
theorem vz_dfX0 : ∀ j, j < 5 → defaultValue (tyX0 j) = vp_V [.null, .int 0, .int 0, .int 0, .int 0] j := by
  intro j hj
  match j, hj with
  | 0, _ => rfl
  | 1, _ => rfl
  | 2, _ => rfl
  | 3, _ => rfl
  | 4, _ => rfl
  | j + 5, hj => exact absurd hj (by omega)
theorem vz_dfX1 : ∀ j, j < 9 → defaultValue (tyX1 j) = vp_V [.null, .null, .int 0, .int 0, .int 0, .int 0, .int 0, .null, .null] j := by
  intro j hj
  match j, hj with
  | 0, _ => rfl
  | 1, _ => rfl
  | 2, _ => rfl
  | 3, _ => rfl
  | 4, _ => rfl
  | 5, _ => rfl
  | 6, _ => rfl
  | 7, _ => rfl
  | 8, _ => rfl
  | j + 9, hj => exact absurd hj (by omega)
theorem vz_dfX2 : ∀ j, j < 6 → defaultValue (tyX2 j) = vp_V [.null, .null, .null, .null, .null, .int 0] j := by
  intro j hj
  match j, hj with
  | 0, _ => rfl
  | 1, _ => rfl
  | 2, _ => rfl
  | 3, _ => rfl
  | 4, _ => rfl
  | 5, _ => rfl
  | j + 6, hj => exact absurd hj (by omega)
theorem vz_dfX3 : ∀ j, j < 8 → defaultValue (tyX3 j) = vp_V [.null, .int 0, .int 0, .int 0, .int 0, .int 0, .int 0, .int 0] j := by
  intro j hj
  match j, hj with
  | 0, _ => rfl
  | 1, _ => rfl
  | 2, _ => rfl
  | 3, _ => rfl
  | 4, _ => rfl
  | 5, _ => rfl
  | 6, _ => rfl
  | 7, _ => rfl
  | j + 8, hj => exact absurd hj (by omega)
theorem vz_dfX4 : ∀ j, j < 4 → defaultValue (tyX4 j) = vp_V [.null, .null, .null, .int 0] j := by
  intro j hj
  match j, hj with
  | 0, _ => rfl
  | 1, _ => rfl
  | 2, _ => rfl
  | 3, _ => rfl
  | j + 4, hj => exact absurd hj (by omega)
theorem vz_dfX5 : ∀ j, j < 10 → defaultValue (tyX5 j) = vp_V [.null, .int 0, .null, .int 0, .null, .null, .null, .null, .null, .null] j := by
  intro j hj
  match j, hj with
  | 0, _ => rfl
  | 1, _ => rfl
  | 2, _ => rfl
  | 3, _ => rfl
  | 4, _ => rfl
  | 5, _ => rfl
  | 6, _ => rfl
  | 7, _ => rfl
  | 8, _ => rfl
  | 9, _ => rfl
  | j + 10, hj => exact absurd hj (by omega)
theorem vz_dfX6 : ∀ j, j < 12 → defaultValue (tyX6 j) = vp_V [.null, .null, .null, .null, .null, .null, .null, .null, .int 0, .null, .null, .null] j := by
  intro j hj
  match j, hj with
  | 0, _ => rfl
  | 1, _ => rfl
  | 2, _ => rfl
  | 3, _ => rfl
  | 4, _ => rfl
  | 5, _ => rfl
  | 6, _ => rfl
  | 7, _ => rfl
  | 8, _ => rfl
  | 9, _ => rfl
  | 10, _ => rfl
  | 11, _ => rfl
  | j + 12, hj => exact absurd hj (by omega)
theorem vz_dfX7 : ∀ j, j < 4 → defaultValue (tyX7 j) = vp_V [.null, .null, .null, .null] j := by
  intro j hj
  match j, hj with
  | 0, _ => rfl
  | 1, _ => rfl
  | 2, _ => rfl
  | 3, _ => rfl
  | j + 4, hj => exact absurd hj (by omega)
theorem vz_dfX8 : ∀ j, j < 13 → defaultValue (tyX8 j) = vp_V [.int 0, .int 0, .int 0, .int 0, .int 0, .int 0, .int 0, .int 0, .null, .null, .null, .null, .null] j := by
  intro j hj
  match j, hj with
  | 0, _ => rfl
  | 1, _ => rfl
  | 2, _ => rfl
  | 3, _ => rfl
  | 4, _ => rfl
  | 5, _ => rfl
  | 6, _ => rfl
  | 7, _ => rfl
  | 8, _ => rfl
  | 9, _ => rfl
  | 10, _ => rfl
  | 11, _ => rfl
  | 12, _ => rfl
  | j + 13, hj => exact absurd hj (by omega)
theorem vz_dfX9 : ∀ j, j < 2 → defaultValue (tyX9 j) = vp_V [.null, .int 0] j := by
  intro j hj
  match j, hj with
  | 0, _ => rfl
  | 1, _ => rfl
  | j + 2, hj => exact absurd hj (by omega)
theorem vz_dfX10 : ∀ j, j < 5 → defaultValue (tyX10 j) = vp_V [.null, .int 0, .int 0, .null, .null] j := by
  intro j hj
  match j, hj with
  | 0, _ => rfl
  | 1, _ => rfl
  | 2, _ => rfl
  | 3, _ => rfl
  | 4, _ => rfl
  | j + 5, hj => exact absurd hj (by omega)
theorem vz_dfX11 : ∀ j, j < 13 → defaultValue (tyX11 j) = vp_V [.null, .null, .null, .null, .null, .null, .int 0, .null, .null, .null, .null, .null, .null] j := by
  intro j hj
  match j, hj with
  | 0, _ => rfl
  | 1, _ => rfl
  | 2, _ => rfl
  | 3, _ => rfl
  | 4, _ => rfl
  | 5, _ => rfl
  | 6, _ => rfl
  | 7, _ => rfl
  | 8, _ => rfl
  | 9, _ => rfl
  | 10, _ => rfl
  | 11, _ => rfl
  | 12, _ => rfl
  | j + 13, hj => exact absurd hj (by omega)
theorem vz_dfX12 : ∀ j, j < 59 → defaultValue (tyX12 j) = vp_V [.int 0, .null, .null, .int 0, .null, .null, .null, .null, .null, .int 0, .null, .null, .null, .null, .null, .null, .null, .null, .null, .null, .null, .null, .int 0, .null, .null, .null, .null, .null, .null, .int 0, .int 0, .null, .int 0, .null, .int 0, .null, .int 0, .null, .int 0, .null, .null, .null, .null, .null, .int 0, .int 0, .int 0, .int 0, .int 0, .int 0, .int 0, .int 0, .null, .int 0, .null, .int 0, .null, .null, .null] j := by
  intro j hj
  match j, hj with
  | 0, _ => rfl
  | 1, _ => rfl
  | 2, _ => rfl
  | 3, _ => rfl
  | 4, _ => rfl
  | 5, _ => rfl
  | 6, _ => rfl
  | 7, _ => rfl
  | 8, _ => rfl
  | 9, _ => rfl
  | 10, _ => rfl
  | 11, _ => rfl
  | 12, _ => rfl
  | 13, _ => rfl
  | 14, _ => rfl
  | 15, _ => rfl
  | 16, _ => rfl
  | 17, _ => rfl
  | 18, _ => rfl
  | 19, _ => rfl
  | 20, _ => rfl
  | 21, _ => rfl
  | 22, _ => rfl
  | 23, _ => rfl
  | 24, _ => rfl
  | 25, _ => rfl
  | 26, _ => rfl
  | 27, _ => rfl
  | 28, _ => rfl
  | 29, _ => rfl
  | 30, _ => rfl
  | 31, _ => rfl
  | 32, _ => rfl
  | 33, _ => rfl
  | 34, _ => rfl
  | 35, _ => rfl
  | 36, _ => rfl
  | 37, _ => rfl
  | 38, _ => rfl
  | 39, _ => rfl
  | 40, _ => rfl
  | 41, _ => rfl
  | 42, _ => rfl
  | 43, _ => rfl
  | 44, _ => rfl
  | 45, _ => rfl
  | 46, _ => rfl
  | 47, _ => rfl
  | 48, _ => rfl
  | 49, _ => rfl
  | 50, _ => rfl
  | 51, _ => rfl
  | 52, _ => rfl
  | 53, _ => rfl
  | 54, _ => rfl
  | 55, _ => rfl
  | 56, _ => rfl
  | 57, _ => rfl
  | 58, _ => rfl
  | j + 59, hj => exact absurd hj (by omega)
end
section
set_option maxHeartbeats 200000 in
set_option maxRecDepth 100000 in
theorem c_Tape_init (l : Launch) (dC : Nat → ClassId) (dI : Nat → Nat → Nat) (cy : Nat → ClassId) (h0 : Nat) (sz : Nat)  : Met l yX9_init wsX9_init ({ frames := 1, cells := 1, slots := 80, locals := 23 }) (va_Pc [.ref h0] (wPre (dC, dI) cy [(h0, .inr (9, [.null, .int 0]))] sz)) (va_Qv (fun (u : Nat) => True) (fun (u : Nat) t => wAt (dC, dI) (va_A [(h0, .inr (9, [.null, .int 0]))] sz) [(h0, .inr (9, [.ref u, .int 0])), (u, .inl (cy 1, 80, .inl (fun _ => 0)))] t) (va_A [(h0, .inr (9, [.null, .int 0]))] sz)) 1 80 (va_A [(h0, .inr (9, [.null, .int 0]))] sz) := by
  refine Met.ofW (cc := cX9_init) (maxL := 1) (ret := none) (by decide) rfl ?_
  intro p e s m args below meth c s₁ B hml hv
  obtain ⟨rfl, hsz, hP, hK, hD0, hN⟩ := hv
  have hx := B.exec
  have hb := B.bytes
  have hr := B.returns
  have hts := atoms_spec (ws := wsX9_init) B.pre
  have hown : s.vm.findClass RX9 = some m.cls := findClass_of_methodNamed B.named
  have hlocks := B.notSynchronized
  subst hsz
  have hin : meth.name = "<init>" := (name_of_methodNamed B.named B.method).1
  have hD := hD0.self (sz := s.heap.size)
  generalize hAe : va_A [(h0, .inr (9, [.null, .int 0]))] s.heap.size = A at hD ⊢
  have hA : ∀ q : Nat, s.heap.size ≤ q → A q := fun q h => by rw [← hAe]; exact Or.inr h
  have hS : va_S A s.heap s.heap [] := va_S.rf
  have hl := lv_entry ([.ref h0]) (n := 1) (Nat.le_of_ble_eq_true rfl)
  rw [lg_entry_eq]
  generalize (lg_sl ([.ref h0]) ++ List.replicate (1 - (lg_sl ([.ref h0])).length) Slot.unset).toArray = ls at hl ⊢
  have hl : lv_has ls 1 [(0, .ref h0)] := hl
  refine lv_aload_n hx hb dX9_init_0 rfl (lv_at hl 0 rfl) ?_
  refine W.objInit hx hb hown (hts (.methodLink RX9 3 objectInit) (List.mem_of_getElem? (i := 1) rfl)) (hts (.instanceMethod objectInit) (List.mem_of_getElem? (i := 2) rfl)) (hts (.code objectInit ⟨#[0xb1]⟩ 1 none) (List.mem_of_getElem? (i := 3) rfl)) rfl (hl.1.trans hml.symm) rfl dX9_init_1 (Nat.le_of_ble_eq_true rfl) (Nat.le_of_ble_eq_true rfl) ?_
  refine lv_aload_n hx hb dX9_init_4 rfl (lv_at hl 0 rfl) ?_
  refine lv_bipush (v := 80) hx hb dX9_init_5 (by decide) ?_
  refine vz_newa (atype := .byte) (ty := .byte) (t0 := 1) (N' := 80) (a0 := (80, .inl (fun _ => 0))) hx hb (hts (.arrayClass .byte) (List.mem_of_getElem? (i := 4) rfl)) rfl rfl hK hP hD hS hA (fun _ => rfl) (by decide) rfl (by decide) (Nat.le_of_ble_eq_true rfl) (Nat.le_of_ble_eq_true rfl) dX9_init_7 (fun q_1 H hP hD hS => ?_)
  have hP : va_P (dC, dI) vwCl [(h0, .inr (9, [.null, .int 0])), (q_1, .inl (cy 1, 80, .inl (fun _ => 0)))] H := hP
  have hD : va_D A [(h0, .inr (9, [.null, .int 0])), (q_1, .inl (cy 1, 80, .inl (fun _ => 0)))] := hD
  refine W.widen (k := 1) (n := 80) (Nat.le_of_ble_eq_true rfl) (Nat.le_of_ble_eq_true rfl) ?_
  refine va_putF (D := (dC, dI)) (ci := 9) (v := .ref q_1) (C := RX9) (T := TX9) (N := 2) hx hb hts (fun _ h9 => List.mem_cons_of_mem _ (List.mem_append_right _ h9)) tyX9 tyX9_ok nmX9 hown hK hP hD hS 0 rfl rfl 0 (by decide) (hts (.fieldLink RX9 9 "SeatsRound$Tape" "bytes" "[B") (List.mem_of_getElem? (i := 5) rfl)) (fun _ h9 => h9) rfl hin rfl (tyX9_ok 0 (by decide)) rfl rfl (Nat.le_of_ble_eq_true rfl) dX9_init_9 (fun H locs hP hD hS => ?_)
  have hP : va_P (dC, dI) vwCl [(h0, .inr (9, [.ref q_1, .int 0])), (q_1, .inl (cy 1, 80, .inl (fun _ => 0)))] H := hP
  have hD : va_D A [(h0, .inr (9, [.ref q_1, .int 0])), (q_1, .inl (cy 1, 80, .inl (fun _ => 0)))] := hD
  refine lv_aload_n hx hb dX9_init_12 rfl (lv_at hl 0 rfl) ?_
  refine lv_iconst (v := 0) hx hb dX9_init_13 (by decide) ?_
  refine va_put (D := (dC, dI)) (ci := 9) (v := .int 0) (C := RX9) (T := TX9) (N := 2) hx hb hts (fun _ h9 => List.mem_cons_of_mem _ (List.mem_append_right _ h9)) tyX9 tyX9_ok nmX9 hown hK hP hD hS 0 rfl rfl 1 (by decide) (hts (.fieldLink RX9 15 "SeatsRound$Tape" "length" "I") (List.mem_of_getElem? (i := 6) rfl)) (fun _ h9 => h9) rfl (tyX9_ok 1 (by decide)) rfl rfl (Nat.le_of_ble_eq_true rfl) dX9_init_14 (fun H locs hP hD hS => ?_)
  have hP : va_P (dC, dI) vwCl [(h0, .inr (9, [.ref q_1, .int 0])), (q_1, .inl (cy 1, 80, .inl (fun _ => 0)))] H := hP
  have hD : va_D A [(h0, .inr (9, [.ref q_1, .int 0])), (q_1, .inl (cy 1, 80, .inl (fun _ => 0)))] := hD
  have hP9 := hP.sub (ws' := [(h0, .inr (9, [.ref q_1, .int 0])), (q_1, .inl (cy 1, 80, .inl (fun _ => 0)))]) [0, 1] rfl
  have hD9 := hD.sub (ws' := [(h0, .inr (9, [.ref q_1, .int 0])), (q_1, .inl (cy 1, 80, .inl (fun _ => 0)))]) [0, 1] (by decide) rfl
  exact W.vret hx hb hr (fun t ht hW => ⟨⟨q_1, rfl, trivial, ⟨by rw [ht]; exact hP9, hD9⟩⟩, hS.F ht⟩) hS.2.2 dX9_init_17
end
