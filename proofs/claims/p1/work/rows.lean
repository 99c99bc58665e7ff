section
-- ===== PART A: goes FIRST, ahead of the names: the tables' words, and 'selects' of the private methods out of them =====
/-- a private method of a class that the tables say can be made, by its rows of tables_1 -/
def lw_okq (q : MethodName × Nat) : Prop := (q.1.cls ≠ "java/lang/invoke/MethodHandle" ∧ q.1.cls ≠ "java/lang/invoke/VarHandle") ∧ Cond.instantiable q.1.cls q.2 ∈ tables_1 ∧ Cond.privateMethod q.1 ∈ tables_1 ∧ Cond.instanceMethod q.1 ∈ tables_1
theorem lw_p0 : lw_okq (⟨"SeatsRound$Parcels", "takesGreater", "(III)Z"⟩, 12) := ⟨⟨by decide +kernel, by decide +kernel⟩, List.mem_of_getElem? (i := 257) (by decide +kernel), List.mem_of_getElem? (i := 532) (by decide +kernel), List.mem_of_getElem? (i := 533) (by decide +kernel)⟩
theorem lw_p1 : lw_okq (⟨"SeatsRound$Law", "look", "(LSeatsRound$Table;LSeatsRound$Keepers;)V"⟩, 8) := ⟨⟨by decide +kernel, by decide +kernel⟩, List.mem_of_getElem? (i := 106) (by decide +kernel), List.mem_of_getElem? (i := 584) (by decide +kernel), List.mem_of_getElem? (i := 585) (by decide +kernel)⟩
theorem lw_p2 : lw_okq (⟨"SeatsRound$Law", "readPart", "(LSeatsRound$Table;I)I"⟩, 8) := ⟨⟨by decide +kernel, by decide +kernel⟩, List.mem_of_getElem? (i := 106) (by decide +kernel), List.mem_of_getElem? (i := 595) (by decide +kernel), List.mem_of_getElem? (i := 596) (by decide +kernel)⟩
theorem lw_p3 : lw_okq (⟨"SeatsRound$Law", "sign", "()I"⟩, 8) := ⟨⟨by decide +kernel, by decide +kernel⟩, List.mem_of_getElem? (i := 106) (by decide +kernel), List.mem_of_getElem? (i := 599) (by decide +kernel), List.mem_of_getElem? (i := 600) (by decide +kernel)⟩
theorem lw_p4 : lw_okq (⟨"SeatsRound$Law", "readSum", "(I)I"⟩, 8) := ⟨⟨by decide +kernel, by decide +kernel⟩, List.mem_of_getElem? (i := 106) (by decide +kernel), List.mem_of_getElem? (i := 603) (by decide +kernel), List.mem_of_getElem? (i := 604) (by decide +kernel)⟩
theorem lw_p5 : lw_okq (⟨"SeatsRound$Law", "readProduct", "(I)I"⟩, 8) := ⟨⟨by decide +kernel, by decide +kernel⟩, List.mem_of_getElem? (i := 106) (by decide +kernel), List.mem_of_getElem? (i := 607) (by decide +kernel), List.mem_of_getElem? (i := 608) (by decide +kernel)⟩
theorem lw_p6 : lw_okq (⟨"SeatsRound$Law", "readOperand", "(I)I"⟩, 8) := ⟨⟨by decide +kernel, by decide +kernel⟩, List.mem_of_getElem? (i := 106) (by decide +kernel), List.mem_of_getElem? (i := 611) (by decide +kernel), List.mem_of_getElem? (i := 612) (by decide +kernel)⟩
theorem lw_p7 : lw_okq (⟨"SeatsRound$Law", "readNumber", "()I"⟩, 8) := ⟨⟨by decide +kernel, by decide +kernel⟩, List.mem_of_getElem? (i := 106) (by decide +kernel), List.mem_of_getElem? (i := 618) (by decide +kernel), List.mem_of_getElem? (i := 619) (by decide +kernel)⟩
theorem lw_p8 : lw_okq (⟨"SeatsRound$Law", "readBracket", "(I)I"⟩, 8) := ⟨⟨by decide +kernel, by decide +kernel⟩, List.mem_of_getElem? (i := 106) (by decide +kernel), List.mem_of_getElem? (i := 622) (by decide +kernel), List.mem_of_getElem? (i := 623) (by decide +kernel)⟩
theorem lw_p9 : lw_okq (⟨"SeatsRound$Law", "readWay", "()I"⟩, 8) := ⟨⟨by decide +kernel, by decide +kernel⟩, List.mem_of_getElem? (i := 106) (by decide +kernel), List.mem_of_getElem? (i := 630) (by decide +kernel), List.mem_of_getElem? (i := 631) (by decide +kernel)⟩
theorem lw_p10 : lw_okq (⟨"SeatsRound$Table", "freeFrom", "(I)I"⟩, 13) := ⟨⟨by decide +kernel, by decide +kernel⟩, List.mem_of_getElem? (i := 183) (by decide +kernel), List.mem_of_getElem? (i := 651) (by decide +kernel), List.mem_of_getElem? (i := 652) (by decide +kernel)⟩
theorem lw_p11 : lw_okq (⟨"SeatsRound$Table", "linkPlaces", "()V"⟩, 13) := ⟨⟨by decide +kernel, by decide +kernel⟩, List.mem_of_getElem? (i := 183) (by decide +kernel), List.mem_of_getElem? (i := 658) (by decide +kernel), List.mem_of_getElem? (i := 659) (by decide +kernel)⟩
theorem lw_p12 : lw_okq (⟨"SeatsRound", "tableAt", "(I)LSeatsRound$Table;"⟩, 13) := ⟨⟨by decide +kernel, by decide +kernel⟩, List.mem_of_getElem? (i := 19) (by decide +kernel), List.mem_of_getElem? (i := 666) (by decide +kernel), List.mem_of_getElem? (i := 667) (by decide +kernel)⟩
theorem lw_p13 : lw_okq (⟨"SeatsRound$Choice", "pickBySums", "(LSeatsRound$Table;I)V"⟩, 9) := ⟨⟨by decide +kernel, by decide +kernel⟩, List.mem_of_getElem? (i := 137) (by decide +kernel), List.mem_of_getElem? (i := 702) (by decide +kernel), List.mem_of_getElem? (i := 703) (by decide +kernel)⟩
theorem lw_p14 : lw_okq (⟨"SeatsRound$Choice", "pickByJumps", "(LSeatsRound$Table;I)V"⟩, 9) := ⟨⟨by decide +kernel, by decide +kernel⟩, List.mem_of_getElem? (i := 137) (by decide +kernel), List.mem_of_getElem? (i := 707) (by decide +kernel), List.mem_of_getElem? (i := 708) (by decide +kernel)⟩
theorem lw_p15 : lw_okq (⟨"SeatsRound$Choice", "pickFirstFrom", "(LSeatsRound$Table;I)V"⟩, 9) := ⟨⟨by decide +kernel, by decide +kernel⟩, List.mem_of_getElem? (i := 137) (by decide +kernel), List.mem_of_getElem? (i := 711) (by decide +kernel), List.mem_of_getElem? (i := 712) (by decide +kernel)⟩
def lw_privs_1 : List (MethodName × Nat) := [(⟨"SeatsRound$Parcels", "takesGreater", "(III)Z"⟩, 12), (⟨"SeatsRound$Law", "look", "(LSeatsRound$Table;LSeatsRound$Keepers;)V"⟩, 8), (⟨"SeatsRound$Law", "readPart", "(LSeatsRound$Table;I)I"⟩, 8), (⟨"SeatsRound$Law", "sign", "()I"⟩, 8), (⟨"SeatsRound$Law", "readSum", "(I)I"⟩, 8), (⟨"SeatsRound$Law", "readProduct", "(I)I"⟩, 8), (⟨"SeatsRound$Law", "readOperand", "(I)I"⟩, 8), (⟨"SeatsRound$Law", "readNumber", "()I"⟩, 8), (⟨"SeatsRound$Law", "readBracket", "(I)I"⟩, 8), (⟨"SeatsRound$Law", "readWay", "()I"⟩, 8), (⟨"SeatsRound$Table", "freeFrom", "(I)I"⟩, 13), (⟨"SeatsRound$Table", "linkPlaces", "()V"⟩, 13), (⟨"SeatsRound", "tableAt", "(I)LSeatsRound$Table;"⟩, 13), (⟨"SeatsRound$Choice", "pickBySums", "(LSeatsRound$Table;I)V"⟩, 9), (⟨"SeatsRound$Choice", "pickByJumps", "(LSeatsRound$Table;I)V"⟩, 9), (⟨"SeatsRound$Choice", "pickFirstFrom", "(LSeatsRound$Table;I)V"⟩, 9)]
theorem lw_r1 : ∀ q ∈ lw_privs_1, lw_okq q := List.forall_mem_cons.mpr ⟨lw_p0, List.forall_mem_cons.mpr ⟨lw_p1, List.forall_mem_cons.mpr ⟨lw_p2, List.forall_mem_cons.mpr ⟨lw_p3, List.forall_mem_cons.mpr ⟨lw_p4, List.forall_mem_cons.mpr ⟨lw_p5, List.forall_mem_cons.mpr ⟨lw_p6, List.forall_mem_cons.mpr ⟨lw_p7, List.forall_mem_cons.mpr ⟨lw_p8, List.forall_mem_cons.mpr ⟨lw_p9, List.forall_mem_cons.mpr ⟨lw_p10, List.forall_mem_cons.mpr ⟨lw_p11, List.forall_mem_cons.mpr ⟨lw_p12, List.forall_mem_cons.mpr ⟨lw_p13, List.forall_mem_cons.mpr ⟨lw_p14, List.forall_mem_cons.mpr ⟨lw_p15, fun _ h => absurd h List.not_mem_nil⟩⟩⟩⟩⟩⟩⟩⟩⟩⟩⟩⟩⟩⟩⟩⟩
theorem lw_p16 : lw_okq (⟨"SeatsRound$Choice", "isPicked", "(I)Z"⟩, 9) := ⟨⟨by decide +kernel, by decide +kernel⟩, List.mem_of_getElem? (i := 137) (by decide +kernel), List.mem_of_getElem? (i := 715) (by decide +kernel), List.mem_of_getElem? (i := 716) (by decide +kernel)⟩
theorem lw_p17 : lw_okq (⟨"SeatsRound$Choice", "takePick", "(I)V"⟩, 9) := ⟨⟨by decide +kernel, by decide +kernel⟩, List.mem_of_getElem? (i := 137) (by decide +kernel), List.mem_of_getElem? (i := 719) (by decide +kernel), List.mem_of_getElem? (i := 720) (by decide +kernel)⟩
theorem lw_p18 : lw_okq (⟨"SeatsRound$Choice", "pickRound", "(LSeatsRound$Table;I)V"⟩, 9) := ⟨⟨by decide +kernel, by decide +kernel⟩, List.mem_of_getElem? (i := 137) (by decide +kernel), List.mem_of_getElem? (i := 724) (by decide +kernel), List.mem_of_getElem? (i := 725) (by decide +kernel)⟩
theorem lw_p19 : lw_okq (⟨"SeatsRound$Choice", "takeChosen", "(I)V"⟩, 9) := ⟨⟨by decide +kernel, by decide +kernel⟩, List.mem_of_getElem? (i := 137) (by decide +kernel), List.mem_of_getElem? (i := 738) (by decide +kernel), List.mem_of_getElem? (i := 739) (by decide +kernel)⟩
theorem lw_p20 : lw_okq (⟨"SeatsRound$Parcels", "reaches", "(II)Z"⟩, 12) := ⟨⟨by decide +kernel, by decide +kernel⟩, List.mem_of_getElem? (i := 257) (by decide +kernel), List.mem_of_getElem? (i := 783) (by decide +kernel), List.mem_of_getElem? (i := 784) (by decide +kernel)⟩
theorem lw_p21 : lw_okq (⟨"SeatsRound$Parcels", "isKeptFor", "(II)Z"⟩, 12) := ⟨⟨by decide +kernel, by decide +kernel⟩, List.mem_of_getElem? (i := 257) (by decide +kernel), List.mem_of_getElem? (i := 787) (by decide +kernel), List.mem_of_getElem? (i := 788) (by decide +kernel)⟩
theorem lw_p22 : lw_okq (⟨"SeatsRound$Parcels", "receives", "(III)Z"⟩, 12) := ⟨⟨by decide +kernel, by decide +kernel⟩, List.mem_of_getElem? (i := 257) (by decide +kernel), List.mem_of_getElem? (i := 793) (by decide +kernel), List.mem_of_getElem? (i := 794) (by decide +kernel)⟩
theorem lw_p23 : lw_okq (⟨"SeatsRound$Parcels", "hasRoom", "(II)Z"⟩, 12) := ⟨⟨by decide +kernel, by decide +kernel⟩, List.mem_of_getElem? (i := 257) (by decide +kernel), List.mem_of_getElem? (i := 797) (by decide +kernel), List.mem_of_getElem? (i := 798) (by decide +kernel)⟩
theorem lw_p24 : lw_okq (⟨"SeatsRound$Parcels", "greatestAnywhere", "(I)I"⟩, 12) := ⟨⟨by decide +kernel, by decide +kernel⟩, List.mem_of_getElem? (i := 257) (by decide +kernel), List.mem_of_getElem? (i := 840) (by decide +kernel), List.mem_of_getElem? (i := 841) (by decide +kernel)⟩
theorem lw_p25 : lw_okq (⟨"SeatsRound$Parcels", "grow", "([II)V"⟩, 12) := ⟨⟨by decide +kernel, by decide +kernel⟩, List.mem_of_getElem? (i := 257) (by decide +kernel), List.mem_of_getElem? (i := 852) (by decide +kernel), List.mem_of_getElem? (i := 853) (by decide +kernel)⟩
theorem lw_p26 : lw_okq (⟨"SeatsRound$Orders", "seatSet", "(LSeatsRound$Table;LSeatsRound$Table;I)Z"⟩, 10) := ⟨⟨by decide +kernel, by decide +kernel⟩, List.mem_of_getElem? (i := 307) (by decide +kernel), List.mem_of_getElem? (i := 892) (by decide +kernel), List.mem_of_getElem? (i := 893) (by decide +kernel)⟩
theorem lw_p27 : lw_okq (⟨"SeatsRound$Orders", "leastOnward", "(I)I"⟩, 10) := ⟨⟨by decide +kernel, by decide +kernel⟩, List.mem_of_getElem? (i := 307) (by decide +kernel), List.mem_of_getElem? (i := 902) (by decide +kernel), List.mem_of_getElem? (i := 903) (by decide +kernel)⟩
theorem lw_p28 : lw_okq (⟨"SeatsRound$Orders", "sumOver", "(II)I"⟩, 10) := ⟨⟨by decide +kernel, by decide +kernel⟩, List.mem_of_getElem? (i := 307) (by decide +kernel), List.mem_of_getElem? (i := 906) (by decide +kernel), List.mem_of_getElem? (i := 907) (by decide +kernel)⟩
theorem lw_p29 : lw_okq (⟨"SeatsRound$Orders", "walk", "(I)V"⟩, 10) := ⟨⟨by decide +kernel, by decide +kernel⟩, List.mem_of_getElem? (i := 307) (by decide +kernel), List.mem_of_getElem? (i := 911) (by decide +kernel), List.mem_of_getElem? (i := 912) (by decide +kernel)⟩
theorem lw_p30 : lw_okq (⟨"SeatsRound$Orders", "nextOf", "(I)I"⟩, 10) := ⟨⟨by decide +kernel, by decide +kernel⟩, List.mem_of_getElem? (i := 307) (by decide +kernel), List.mem_of_getElem? (i := 915) (by decide +kernel), List.mem_of_getElem? (i := 916) (by decide +kernel)⟩
theorem lw_p31 : lw_okq (⟨"SeatsRound$Turnings", "greatestShare", "(LSeatsRound$Table;)I"⟩, 5) := ⟨⟨by decide +kernel, by decide +kernel⟩, List.mem_of_getElem? (i := 349) (by decide +kernel), List.mem_of_getElem? (i := 937) (by decide +kernel), List.mem_of_getElem? (i := 938) (by decide +kernel)⟩
def lw_privs_2 : List (MethodName × Nat) := [(⟨"SeatsRound$Choice", "isPicked", "(I)Z"⟩, 9), (⟨"SeatsRound$Choice", "takePick", "(I)V"⟩, 9), (⟨"SeatsRound$Choice", "pickRound", "(LSeatsRound$Table;I)V"⟩, 9), (⟨"SeatsRound$Choice", "takeChosen", "(I)V"⟩, 9), (⟨"SeatsRound$Parcels", "reaches", "(II)Z"⟩, 12), (⟨"SeatsRound$Parcels", "isKeptFor", "(II)Z"⟩, 12), (⟨"SeatsRound$Parcels", "receives", "(III)Z"⟩, 12), (⟨"SeatsRound$Parcels", "hasRoom", "(II)Z"⟩, 12), (⟨"SeatsRound$Parcels", "greatestAnywhere", "(I)I"⟩, 12), (⟨"SeatsRound$Parcels", "grow", "([II)V"⟩, 12), (⟨"SeatsRound$Orders", "seatSet", "(LSeatsRound$Table;LSeatsRound$Table;I)Z"⟩, 10), (⟨"SeatsRound$Orders", "leastOnward", "(I)I"⟩, 10), (⟨"SeatsRound$Orders", "sumOver", "(II)I"⟩, 10), (⟨"SeatsRound$Orders", "walk", "(I)V"⟩, 10), (⟨"SeatsRound$Orders", "nextOf", "(I)I"⟩, 10), (⟨"SeatsRound$Turnings", "greatestShare", "(LSeatsRound$Table;)I"⟩, 5)]
theorem lw_r2 : ∀ q ∈ lw_privs_2, lw_okq q := List.forall_mem_cons.mpr ⟨lw_p16, List.forall_mem_cons.mpr ⟨lw_p17, List.forall_mem_cons.mpr ⟨lw_p18, List.forall_mem_cons.mpr ⟨lw_p19, List.forall_mem_cons.mpr ⟨lw_p20, List.forall_mem_cons.mpr ⟨lw_p21, List.forall_mem_cons.mpr ⟨lw_p22, List.forall_mem_cons.mpr ⟨lw_p23, List.forall_mem_cons.mpr ⟨lw_p24, List.forall_mem_cons.mpr ⟨lw_p25, List.forall_mem_cons.mpr ⟨lw_p26, List.forall_mem_cons.mpr ⟨lw_p27, List.forall_mem_cons.mpr ⟨lw_p28, List.forall_mem_cons.mpr ⟨lw_p29, List.forall_mem_cons.mpr ⟨lw_p30, List.forall_mem_cons.mpr ⟨lw_p31, fun _ h => absurd h List.not_mem_nil⟩⟩⟩⟩⟩⟩⟩⟩⟩⟩⟩⟩⟩⟩⟩⟩
theorem lw_p32 : lw_okq (⟨"SeatsRound$Acts", "findsFrom", "(II)I"⟩, 5) := ⟨⟨by decide +kernel, by decide +kernel⟩, List.mem_of_getElem? (i := 374) (by decide +kernel), List.mem_of_getElem? (i := 957) (by decide +kernel), List.mem_of_getElem? (i := 958) (by decide +kernel)⟩
theorem lw_p33 : lw_okq (⟨"SeatsRound$Acts", "begin", "(I)V"⟩, 5) := ⟨⟨by decide +kernel, by decide +kernel⟩, List.mem_of_getElem? (i := 374) (by decide +kernel), List.mem_of_getElem? (i := 961) (by decide +kernel), List.mem_of_getElem? (i := 962) (by decide +kernel)⟩
theorem lw_p34 : lw_okq (⟨"SeatsRound$Acts", "keepsFrom", "(II)I"⟩, 5) := ⟨⟨by decide +kernel, by decide +kernel⟩, List.mem_of_getElem? (i := 374) (by decide +kernel), List.mem_of_getElem? (i := 965) (by decide +kernel), List.mem_of_getElem? (i := 966) (by decide +kernel)⟩
theorem lw_p35 : lw_okq (⟨"SeatsRound$Acts", "movesFrom", "(II)I"⟩, 5) := ⟨⟨by decide +kernel, by decide +kernel⟩, List.mem_of_getElem? (i := 374) (by decide +kernel), List.mem_of_getElem? (i := 969) (by decide +kernel), List.mem_of_getElem? (i := 970) (by decide +kernel)⟩
theorem lw_p36 : lw_okq (⟨"SeatsRound$Acts", "tellsFrom", "(II)I"⟩, 5) := ⟨⟨by decide +kernel, by decide +kernel⟩, List.mem_of_getElem? (i := 374) (by decide +kernel), List.mem_of_getElem? (i := 973) (by decide +kernel), List.mem_of_getElem? (i := 974) (by decide +kernel)⟩
theorem lw_p37 : lw_okq (⟨"SeatsRoundModel", "found", "(I)I"⟩, 59) := ⟨⟨by decide +kernel, by decide +kernel⟩, List.mem_of_getElem? (i := 1071) (by decide +kernel), List.mem_of_getElem? (i := 1266) (by decide +kernel), List.mem_of_getElem? (i := 1267) (by decide +kernel)⟩
theorem lw_p38 : lw_okq (⟨"SeatsRoundModel", "comesName", "(I)V"⟩, 59) := ⟨⟨by decide +kernel, by decide +kernel⟩, List.mem_of_getElem? (i := 1071) (by decide +kernel), List.mem_of_getElem? (i := 1270) (by decide +kernel), List.mem_of_getElem? (i := 1271) (by decide +kernel)⟩
theorem lw_p39 : lw_okq (⟨"SeatsRoundModel", "isName", "(I)Z"⟩, 59) := ⟨⟨by decide +kernel, by decide +kernel⟩, List.mem_of_getElem? (i := 1071) (by decide +kernel), List.mem_of_getElem? (i := 1278) (by decide +kernel), List.mem_of_getElem? (i := 1279) (by decide +kernel)⟩
theorem lw_p40 : lw_okq (⟨"SeatsRoundModel", "numberOf", "(II)I"⟩, 59) := ⟨⟨by decide +kernel, by decide +kernel⟩, List.mem_of_getElem? (i := 1071) (by decide +kernel), List.mem_of_getElem? (i := 1282) (by decide +kernel), List.mem_of_getElem? (i := 1283) (by decide +kernel)⟩
theorem lw_p41 : lw_okq (⟨"SeatsRoundModel", "isKeeper", "(I)Z"⟩, 59) := ⟨⟨by decide +kernel, by decide +kernel⟩, List.mem_of_getElem? (i := 1071) (by decide +kernel), List.mem_of_getElem? (i := 1295) (by decide +kernel), List.mem_of_getElem? (i := 1296) (by decide +kernel)⟩
theorem lw_p42 : lw_okq (⟨"SeatsRoundModel", "countsNow", "(I)I"⟩, 59) := ⟨⟨by decide +kernel, by decide +kernel⟩, List.mem_of_getElem? (i := 1071) (by decide +kernel), List.mem_of_getElem? (i := 1308) (by decide +kernel), List.mem_of_getElem? (i := 1309) (by decide +kernel)⟩
theorem lw_p43 : lw_okq (⟨"SeatsRoundModel", "many", "(IZ)I"⟩, 59) := ⟨⟨by decide +kernel, by decide +kernel⟩, List.mem_of_getElem? (i := 1071) (by decide +kernel), List.mem_of_getElem? (i := 1312) (by decide +kernel), List.mem_of_getElem? (i := 1313) (by decide +kernel)⟩
theorem lw_p44 : lw_okq (⟨"SeatsRoundModel", "numbers", "(I)V"⟩, 59) := ⟨⟨by decide +kernel, by decide +kernel⟩, List.mem_of_getElem? (i := 1071) (by decide +kernel), List.mem_of_getElem? (i := 1320) (by decide +kernel), List.mem_of_getElem? (i := 1321) (by decide +kernel)⟩
theorem lw_p45 : lw_okq (⟨"SeatsRoundModel", "isIn", "(II)Z"⟩, 59) := ⟨⟨by decide +kernel, by decide +kernel⟩, List.mem_of_getElem? (i := 1071) (by decide +kernel), List.mem_of_getElem? (i := 1324) (by decide +kernel), List.mem_of_getElem? (i := 1325) (by decide +kernel)⟩
theorem lw_p46 : lw_okq (⟨"SeatsRoundModel", "reads", "(I)I"⟩, 59) := ⟨⟨by decide +kernel, by decide +kernel⟩, List.mem_of_getElem? (i := 1071) (by decide +kernel), List.mem_of_getElem? (i := 1328) (by decide +kernel), List.mem_of_getElem? (i := 1329) (by decide +kernel)⟩
theorem lw_p47 : lw_okq (⟨"SeatsRoundModel", "here", "()I"⟩, 59) := ⟨⟨by decide +kernel, by decide +kernel⟩, List.mem_of_getElem? (i := 1071) (by decide +kernel), List.mem_of_getElem? (i := 1332) (by decide +kernel), List.mem_of_getElem? (i := 1333) (by decide +kernel)⟩
def lw_privs_3 : List (MethodName × Nat) := [(⟨"SeatsRound$Acts", "findsFrom", "(II)I"⟩, 5), (⟨"SeatsRound$Acts", "begin", "(I)V"⟩, 5), (⟨"SeatsRound$Acts", "keepsFrom", "(II)I"⟩, 5), (⟨"SeatsRound$Acts", "movesFrom", "(II)I"⟩, 5), (⟨"SeatsRound$Acts", "tellsFrom", "(II)I"⟩, 5), (⟨"SeatsRoundModel", "found", "(I)I"⟩, 59), (⟨"SeatsRoundModel", "comesName", "(I)V"⟩, 59), (⟨"SeatsRoundModel", "isName", "(I)Z"⟩, 59), (⟨"SeatsRoundModel", "numberOf", "(II)I"⟩, 59), (⟨"SeatsRoundModel", "isKeeper", "(I)Z"⟩, 59), (⟨"SeatsRoundModel", "countsNow", "(I)I"⟩, 59), (⟨"SeatsRoundModel", "many", "(IZ)I"⟩, 59), (⟨"SeatsRoundModel", "numbers", "(I)V"⟩, 59), (⟨"SeatsRoundModel", "isIn", "(II)Z"⟩, 59), (⟨"SeatsRoundModel", "reads", "(I)I"⟩, 59), (⟨"SeatsRoundModel", "here", "()I"⟩, 59)]
theorem lw_r3 : ∀ q ∈ lw_privs_3, lw_okq q := List.forall_mem_cons.mpr ⟨lw_p32, List.forall_mem_cons.mpr ⟨lw_p33, List.forall_mem_cons.mpr ⟨lw_p34, List.forall_mem_cons.mpr ⟨lw_p35, List.forall_mem_cons.mpr ⟨lw_p36, List.forall_mem_cons.mpr ⟨lw_p37, List.forall_mem_cons.mpr ⟨lw_p38, List.forall_mem_cons.mpr ⟨lw_p39, List.forall_mem_cons.mpr ⟨lw_p40, List.forall_mem_cons.mpr ⟨lw_p41, List.forall_mem_cons.mpr ⟨lw_p42, List.forall_mem_cons.mpr ⟨lw_p43, List.forall_mem_cons.mpr ⟨lw_p44, List.forall_mem_cons.mpr ⟨lw_p45, List.forall_mem_cons.mpr ⟨lw_p46, List.forall_mem_cons.mpr ⟨lw_p47, fun _ h => absurd h List.not_mem_nil⟩⟩⟩⟩⟩⟩⟩⟩⟩⟩⟩⟩⟩⟩⟩⟩
theorem lw_p48 : lw_okq (⟨"SeatsRoundModel", "eats", "(I)V"⟩, 59) := ⟨⟨by decide +kernel, by decide +kernel⟩, List.mem_of_getElem? (i := 1071) (by decide +kernel), List.mem_of_getElem? (i := 1336) (by decide +kernel), List.mem_of_getElem? (i := 1337) (by decide +kernel)⟩
theorem lw_p49 : lw_okq (⟨"SeatsRoundModel", "sum", "()I"⟩, 59) := ⟨⟨by decide +kernel, by decide +kernel⟩, List.mem_of_getElem? (i := 1071) (by decide +kernel), List.mem_of_getElem? (i := 1340) (by decide +kernel), List.mem_of_getElem? (i := 1341) (by decide +kernel)⟩
theorem lw_p50 : lw_okq (⟨"SeatsRoundModel", "product", "()I"⟩, 59) := ⟨⟨by decide +kernel, by decide +kernel⟩, List.mem_of_getElem? (i := 1071) (by decide +kernel), List.mem_of_getElem? (i := 1344) (by decide +kernel), List.mem_of_getElem? (i := 1345) (by decide +kernel)⟩
theorem lw_p51 : lw_okq (⟨"SeatsRoundModel", "one", "()I"⟩, 59) := ⟨⟨by decide +kernel, by decide +kernel⟩, List.mem_of_getElem? (i := 1071) (by decide +kernel), List.mem_of_getElem? (i := 1348) (by decide +kernel), List.mem_of_getElem? (i := 1349) (by decide +kernel)⟩
theorem lw_p52 : lw_okq (⟨"SeatsRoundModel", "sits", "(I)V"⟩, 59) := ⟨⟨by decide +kernel, by decide +kernel⟩, List.mem_of_getElem? (i := 1071) (by decide +kernel), List.mem_of_getElem? (i := 1355) (by decide +kernel), List.mem_of_getElem? (i := 1356) (by decide +kernel)⟩
theorem lw_p53 : lw_okq (⟨"SeatsRoundModel", "isTable", "(I)Z"⟩, 59) := ⟨⟨by decide +kernel, by decide +kernel⟩, List.mem_of_getElem? (i := 1071) (by decide +kernel), List.mem_of_getElem? (i := 1368) (by decide +kernel), List.mem_of_getElem? (i := 1369) (by decide +kernel)⟩
theorem lw_p54 : lw_okq (⟨"SeatsRoundModel", "pick", "(II)V"⟩, 59) := ⟨⟨by decide +kernel, by decide +kernel⟩, List.mem_of_getElem? (i := 1071) (by decide +kernel), List.mem_of_getElem? (i := 1376) (by decide +kernel), List.mem_of_getElem? (i := 1377) (by decide +kernel)⟩
theorem lw_p55 : lw_okq (⟨"SeatsRoundModel", "pickBest", "(III)V"⟩, 59) := ⟨⟨by decide +kernel, by decide +kernel⟩, List.mem_of_getElem? (i := 1071) (by decide +kernel), List.mem_of_getElem? (i := 1380) (by decide +kernel), List.mem_of_getElem? (i := 1381) (by decide +kernel)⟩
theorem lw_p56 : lw_okq (⟨"SeatsRoundModel", "pickNext", "(III)V"⟩, 59) := ⟨⟨by decide +kernel, by decide +kernel⟩, List.mem_of_getElem? (i := 1071) (by decide +kernel), List.mem_of_getElem? (i := 1384) (by decide +kernel), List.mem_of_getElem? (i := 1385) (by decide +kernel)⟩
theorem lw_p57 : lw_okq (⟨"SeatsRoundModel", "chooseName", "(II)V"⟩, 59) := ⟨⟨by decide +kernel, by decide +kernel⟩, List.mem_of_getElem? (i := 1071) (by decide +kernel), List.mem_of_getElem? (i := 1392) (by decide +kernel), List.mem_of_getElem? (i := 1393) (by decide +kernel)⟩
theorem lw_p58 : lw_okq (⟨"SeatsRoundModel", "choose", "(II)V"⟩, 59) := ⟨⟨by decide +kernel, by decide +kernel⟩, List.mem_of_getElem? (i := 1071) (by decide +kernel), List.mem_of_getElem? (i := 1396) (by decide +kernel), List.mem_of_getElem? (i := 1397) (by decide +kernel)⟩
theorem lw_p59 : lw_okq (⟨"SeatsRoundModel", "streetsOf", "(I)I"⟩, 59) := ⟨⟨by decide +kernel, by decide +kernel⟩, List.mem_of_getElem? (i := 1071) (by decide +kernel), List.mem_of_getElem? (i := 1400) (by decide +kernel), List.mem_of_getElem? (i := 1401) (by decide +kernel)⟩
theorem lw_p60 : lw_okq (⟨"SeatsRoundModel", "isChosen", "(I)Z"⟩, 59) := ⟨⟨by decide +kernel, by decide +kernel⟩, List.mem_of_getElem? (i := 1071) (by decide +kernel), List.mem_of_getElem? (i := 1404) (by decide +kernel), List.mem_of_getElem? (i := 1405) (by decide +kernel)⟩
theorem lw_p61 : lw_okq (⟨"SeatsRoundModel", "shareOf", "(II)I"⟩, 59) := ⟨⟨by decide +kernel, by decide +kernel⟩, List.mem_of_getElem? (i := 1071) (by decide +kernel), List.mem_of_getElem? (i := 1416) (by decide +kernel), List.mem_of_getElem? (i := 1417) (by decide +kernel)⟩
theorem lw_p62 : lw_okq (⟨"SeatsRoundModel", "findOdds", "(I)V"⟩, 59) := ⟨⟨by decide +kernel, by decide +kernel⟩, List.mem_of_getElem? (i := 1071) (by decide +kernel), List.mem_of_getElem? (i := 1420) (by decide +kernel), List.mem_of_getElem? (i := 1421) (by decide +kernel)⟩
theorem lw_p63 : lw_okq (⟨"SeatsRoundModel", "even", "(I)I"⟩, 59) := ⟨⟨by decide +kernel, by decide +kernel⟩, List.mem_of_getElem? (i := 1071) (by decide +kernel), List.mem_of_getElem? (i := 1428) (by decide +kernel), List.mem_of_getElem? (i := 1429) (by decide +kernel)⟩
def lw_privs_4 : List (MethodName × Nat) := [(⟨"SeatsRoundModel", "eats", "(I)V"⟩, 59), (⟨"SeatsRoundModel", "sum", "()I"⟩, 59), (⟨"SeatsRoundModel", "product", "()I"⟩, 59), (⟨"SeatsRoundModel", "one", "()I"⟩, 59), (⟨"SeatsRoundModel", "sits", "(I)V"⟩, 59), (⟨"SeatsRoundModel", "isTable", "(I)Z"⟩, 59), (⟨"SeatsRoundModel", "pick", "(II)V"⟩, 59), (⟨"SeatsRoundModel", "pickBest", "(III)V"⟩, 59), (⟨"SeatsRoundModel", "pickNext", "(III)V"⟩, 59), (⟨"SeatsRoundModel", "chooseName", "(II)V"⟩, 59), (⟨"SeatsRoundModel", "choose", "(II)V"⟩, 59), (⟨"SeatsRoundModel", "streetsOf", "(I)I"⟩, 59), (⟨"SeatsRoundModel", "isChosen", "(I)Z"⟩, 59), (⟨"SeatsRoundModel", "shareOf", "(II)I"⟩, 59), (⟨"SeatsRoundModel", "findOdds", "(I)V"⟩, 59), (⟨"SeatsRoundModel", "even", "(I)I"⟩, 59)]
theorem lw_r4 : ∀ q ∈ lw_privs_4, lw_okq q := List.forall_mem_cons.mpr ⟨lw_p48, List.forall_mem_cons.mpr ⟨lw_p49, List.forall_mem_cons.mpr ⟨lw_p50, List.forall_mem_cons.mpr ⟨lw_p51, List.forall_mem_cons.mpr ⟨lw_p52, List.forall_mem_cons.mpr ⟨lw_p53, List.forall_mem_cons.mpr ⟨lw_p54, List.forall_mem_cons.mpr ⟨lw_p55, List.forall_mem_cons.mpr ⟨lw_p56, List.forall_mem_cons.mpr ⟨lw_p57, List.forall_mem_cons.mpr ⟨lw_p58, List.forall_mem_cons.mpr ⟨lw_p59, List.forall_mem_cons.mpr ⟨lw_p60, List.forall_mem_cons.mpr ⟨lw_p61, List.forall_mem_cons.mpr ⟨lw_p62, List.forall_mem_cons.mpr ⟨lw_p63, fun _ h => absurd h List.not_mem_nil⟩⟩⟩⟩⟩⟩⟩⟩⟩⟩⟩⟩⟩⟩⟩⟩
theorem lw_p64 : lw_okq (⟨"SeatsRoundModel", "bits", "()I"⟩, 59) := ⟨⟨by decide +kernel, by decide +kernel⟩, List.mem_of_getElem? (i := 1071) (by decide +kernel), List.mem_of_getElem? (i := 1436) (by decide +kernel), List.mem_of_getElem? (i := 1437) (by decide +kernel)⟩
theorem lw_p65 : lw_okq (⟨"SeatsRoundModel", "isAwake", "(I)Z"⟩, 59) := ⟨⟨by decide +kernel, by decide +kernel⟩, List.mem_of_getElem? (i := 1071) (by decide +kernel), List.mem_of_getElem? (i := 1451) (by decide +kernel), List.mem_of_getElem? (i := 1452) (by decide +kernel)⟩
theorem lw_p66 : lw_okq (⟨"SeatsRoundModel", "keeps", "(IIII)I"⟩, 59) := ⟨⟨by decide +kernel, by decide +kernel⟩, List.mem_of_getElem? (i := 1071) (by decide +kernel), List.mem_of_getElem? (i := 1455) (by decide +kernel), List.mem_of_getElem? (i := 1456) (by decide +kernel)⟩
theorem lw_p67 : lw_okq (⟨"SeatsRoundModel", "hasRoom", "(II)Z"⟩, 59) := ⟨⟨by decide +kernel, by decide +kernel⟩, List.mem_of_getElem? (i := 1071) (by decide +kernel), List.mem_of_getElem? (i := 1459) (by decide +kernel), List.mem_of_getElem? (i := 1460) (by decide +kernel)⟩
theorem lw_p68 : lw_okq (⟨"SeatsRoundModel", "wordsBelow", "(IIII)I"⟩, 59) := ⟨⟨by decide +kernel, by decide +kernel⟩, List.mem_of_getElem? (i := 1071) (by decide +kernel), List.mem_of_getElem? (i := 1487) (by decide +kernel), List.mem_of_getElem? (i := 1488) (by decide +kernel)⟩
theorem lw_p69 : lw_okq (⟨"SeatsRoundModel", "areUnlike", "(IIII)Z"⟩, 59) := ⟨⟨by decide +kernel, by decide +kernel⟩, List.mem_of_getElem? (i := 1071) (by decide +kernel), List.mem_of_getElem? (i := 1491) (by decide +kernel), List.mem_of_getElem? (i := 1492) (by decide +kernel)⟩
theorem lw_p70 : lw_okq (⟨"SeatsRoundModel", "leafOf", "(II)I"⟩, 59) := ⟨⟨by decide +kernel, by decide +kernel⟩, List.mem_of_getElem? (i := 1071) (by decide +kernel), List.mem_of_getElem? (i := 1495) (by decide +kernel), List.mem_of_getElem? (i := 1496) (by decide +kernel)⟩
theorem lw_p71 : lw_okq (⟨"SeatsRoundModel", "isComing", "(I)Z"⟩, 59) := ⟨⟨by decide +kernel, by decide +kernel⟩, List.mem_of_getElem? (i := 1071) (by decide +kernel), List.mem_of_getElem? (i := 1511) (by decide +kernel), List.mem_of_getElem? (i := 1512) (by decide +kernel)⟩
theorem lw_p72 : lw_okq (⟨"SeatsRoundModel", "setBy", "(II)I"⟩, 59) := ⟨⟨by decide +kernel, by decide +kernel⟩, List.mem_of_getElem? (i := 1071) (by decide +kernel), List.mem_of_getElem? (i := 1519) (by decide +kernel), List.mem_of_getElem? (i := 1520) (by decide +kernel)⟩
theorem lw_p73 : lw_okq (⟨"SeatsRoundModel", "tries", "(III)V"⟩, 59) := ⟨⟨by decide +kernel, by decide +kernel⟩, List.mem_of_getElem? (i := 1071) (by decide +kernel), List.mem_of_getElem? (i := 1523) (by decide +kernel), List.mem_of_getElem? (i := 1524) (by decide +kernel)⟩
theorem lw_p74 : lw_okq (⟨"SeatsRoundModel", "movesBy", "(I)I"⟩, 59) := ⟨⟨by decide +kernel, by decide +kernel⟩, List.mem_of_getElem? (i := 1071) (by decide +kernel), List.mem_of_getElem? (i := 1527) (by decide +kernel), List.mem_of_getElem? (i := 1528) (by decide +kernel)⟩
theorem lw_p75 : lw_okq (⟨"SeatsRoundModel", "nextOrder", "(I)Z"⟩, 59) := ⟨⟨by decide +kernel, by decide +kernel⟩, List.mem_of_getElem? (i := 1071) (by decide +kernel), List.mem_of_getElem? (i := 1531) (by decide +kernel), List.mem_of_getElem? (i := 1532) (by decide +kernel)⟩
theorem lw_p76 : lw_okq (⟨"SeatsRoundModel", "findsFrom", "(III)I"⟩, 59) := ⟨⟨by decide +kernel, by decide +kernel⟩, List.mem_of_getElem? (i := 1071) (by decide +kernel), List.mem_of_getElem? (i := 1555) (by decide +kernel), List.mem_of_getElem? (i := 1556) (by decide +kernel)⟩
theorem lw_p77 : lw_okq (⟨"SeatsRoundModel", "begins", "(I)V"⟩, 59) := ⟨⟨by decide +kernel, by decide +kernel⟩, List.mem_of_getElem? (i := 1071) (by decide +kernel), List.mem_of_getElem? (i := 1559) (by decide +kernel), List.mem_of_getElem? (i := 1560) (by decide +kernel)⟩
theorem lw_p78 : lw_okq (⟨"SeatsRoundModel", "keepsFrom", "(III)I"⟩, 59) := ⟨⟨by decide +kernel, by decide +kernel⟩, List.mem_of_getElem? (i := 1071) (by decide +kernel), List.mem_of_getElem? (i := 1566) (by decide +kernel), List.mem_of_getElem? (i := 1567) (by decide +kernel)⟩
theorem lw_p79 : lw_okq (⟨"SeatsRoundModel", "movesFrom", "(III)I"⟩, 59) := ⟨⟨by decide +kernel, by decide +kernel⟩, List.mem_of_getElem? (i := 1071) (by decide +kernel), List.mem_of_getElem? (i := 1570) (by decide +kernel), List.mem_of_getElem? (i := 1571) (by decide +kernel)⟩
def lw_privs_5 : List (MethodName × Nat) := [(⟨"SeatsRoundModel", "bits", "()I"⟩, 59), (⟨"SeatsRoundModel", "isAwake", "(I)Z"⟩, 59), (⟨"SeatsRoundModel", "keeps", "(IIII)I"⟩, 59), (⟨"SeatsRoundModel", "hasRoom", "(II)Z"⟩, 59), (⟨"SeatsRoundModel", "wordsBelow", "(IIII)I"⟩, 59), (⟨"SeatsRoundModel", "areUnlike", "(IIII)Z"⟩, 59), (⟨"SeatsRoundModel", "leafOf", "(II)I"⟩, 59), (⟨"SeatsRoundModel", "isComing", "(I)Z"⟩, 59), (⟨"SeatsRoundModel", "setBy", "(II)I"⟩, 59), (⟨"SeatsRoundModel", "tries", "(III)V"⟩, 59), (⟨"SeatsRoundModel", "movesBy", "(I)I"⟩, 59), (⟨"SeatsRoundModel", "nextOrder", "(I)Z"⟩, 59), (⟨"SeatsRoundModel", "findsFrom", "(III)I"⟩, 59), (⟨"SeatsRoundModel", "begins", "(I)V"⟩, 59), (⟨"SeatsRoundModel", "keepsFrom", "(III)I"⟩, 59), (⟨"SeatsRoundModel", "movesFrom", "(III)I"⟩, 59)]
theorem lw_r5 : ∀ q ∈ lw_privs_5, lw_okq q := List.forall_mem_cons.mpr ⟨lw_p64, List.forall_mem_cons.mpr ⟨lw_p65, List.forall_mem_cons.mpr ⟨lw_p66, List.forall_mem_cons.mpr ⟨lw_p67, List.forall_mem_cons.mpr ⟨lw_p68, List.forall_mem_cons.mpr ⟨lw_p69, List.forall_mem_cons.mpr ⟨lw_p70, List.forall_mem_cons.mpr ⟨lw_p71, List.forall_mem_cons.mpr ⟨lw_p72, List.forall_mem_cons.mpr ⟨lw_p73, List.forall_mem_cons.mpr ⟨lw_p74, List.forall_mem_cons.mpr ⟨lw_p75, List.forall_mem_cons.mpr ⟨lw_p76, List.forall_mem_cons.mpr ⟨lw_p77, List.forall_mem_cons.mpr ⟨lw_p78, List.forall_mem_cons.mpr ⟨lw_p79, fun _ h => absurd h List.not_mem_nil⟩⟩⟩⟩⟩⟩⟩⟩⟩⟩⟩⟩⟩⟩⟩⟩
theorem lw_p80 : lw_okq (⟨"SeatsRoundModel", "tellsFrom", "(III)I"⟩, 59) := ⟨⟨by decide +kernel, by decide +kernel⟩, List.mem_of_getElem? (i := 1071) (by decide +kernel), List.mem_of_getElem? (i := 1574) (by decide +kernel), List.mem_of_getElem? (i := 1575) (by decide +kernel)⟩
theorem lw_p81 : lw_okq (⟨"SeatsRoundModel", "barred", "(II)I"⟩, 59) := ⟨⟨by decide +kernel, by decide +kernel⟩, List.mem_of_getElem? (i := 1071) (by decide +kernel), List.mem_of_getElem? (i := 1597) (by decide +kernel), List.mem_of_getElem? (i := 1598) (by decide +kernel)⟩
def lw_privs_6 : List (MethodName × Nat) := [(⟨"SeatsRoundModel", "tellsFrom", "(III)I"⟩, 59), (⟨"SeatsRoundModel", "barred", "(II)I"⟩, 59)]
theorem lw_r6 : ∀ q ∈ lw_privs_6, lw_okq q := List.forall_mem_cons.mpr ⟨lw_p80, List.forall_mem_cons.mpr ⟨lw_p81, fun _ h => absurd h List.not_mem_nil⟩⟩
def lw_privs : List (MethodName × Nat) := lw_privs_1 ++ (lw_privs_2 ++ (lw_privs_3 ++ (lw_privs_4 ++ (lw_privs_5 ++ (lw_privs_6)))))
def lw_tbl : List Cond := k2_sels lw_privs ++ tables_1
theorem lw_privs_ok : ∀ q ∈ lw_privs, lw_okq q := by
  show ∀ q ∈ lw_privs_1 ++ (lw_privs_2 ++ (lw_privs_3 ++ (lw_privs_4 ++ (lw_privs_5 ++ (lw_privs_6))))), lw_okq q
  exact List.forall_mem_append.mpr ⟨lw_r1, List.forall_mem_append.mpr ⟨lw_r2, List.forall_mem_append.mpr ⟨lw_r3, List.forall_mem_append.mpr ⟨lw_r4, List.forall_mem_append.mpr ⟨lw_r5, lw_r6⟩⟩⟩⟩⟩
-- ===== end of PART A; then your names; then what follows =====
end
section
/-! ===== BEGIN words of one list among another's, by their places ===== -/
theorem goodIn_r {big : List Cond} (ws : List Cond) (ps : List Nat) (hp : ws = ps.filterMap (fun i => big[i]?)) (h : ws.all goodWord = true) : GoodIn big ws := by
  intro w hw
  have h1 := List.all_eq_true.mp h w hw
  rw [hp] at hw
  obtain ⟨i, -, hi⟩ := List.mem_filterMap.mp hw
  have hm : w ∈ big := by first | exact List.mem_of_getElem? hi | exact List.getElem?_mem hi
  exact ⟨hm, good_of_word h1⟩
theorem goodIn_app {big a b : List Cond} (ha : GoodIn big a) (hb : GoodIn big b) : GoodIn big (a ++ b) := fun w h => (List.mem_append.mp h).elim (ha w) (hb w)
theorem goodIn_ca {big a b : List Cond} {c : Cond} (ha : GoodIn big (c :: a)) (hb : GoodIn big b) : GoodIn big (c :: (a ++ b)) := fun w h => (List.mem_cons.mp h).elim (fun e => ha w (List.mem_cons.mpr (Or.inl e))) (fun h => (List.mem_append.mp h).elim (fun h => ha w (List.mem_cons.mpr (Or.inr h))) (hb w))
theorem goodIn_sub {big ws : List Cond} (hm : ∀ w ∈ ws, w ∈ big) (h : ws.all goodWord = true) : GoodIn big ws := fun w hw => ⟨hm w hw, good_of_word (List.all_eq_true.mp h w hw)⟩
/-! ===== END ===== -/

/-! ===== BEGIN new T[n][m]: the outer array a place, the inner ones among the pooled ===== -/
/-- f, but v at every address of l -/
def vr_up {α : Type} (f : Nat → α) (l : List Nat) (v : α) : Nat → α := fun a => if a ∈ l then v else f a
theorem vr_up_in {α : Type} {f : Nat → α} {l : List Nat} {v : α} {a : Nat} (h : a ∈ l) : vr_up f l v a = v := if_pos h
theorem vr_up_ne {α : Type} {f : Nat → α} {l : List Nat} {v : α} {a : Nat} (h : a ∉ l) : vr_up f l v a = f a := if_neg h
theorem vr_rows {L l : List Nat} {f : Nat → va_E} {e : va_E} (h : ∀ a, a ∈ l → a ∉ L) : va_pl L f ++ l.map (fun a => (a, e)) = va_pl (L ++ l) (vr_up f l e) := by
  unfold va_pl
  rw [List.map_append]
  congr 1
  · apply List.map_congr_left
    intro a ha
    rw [vr_up_ne (fun q => h a q ha)]
  · apply List.map_congr_left
    intro a ha
    rw [vr_up_in ha]
theorem vr_lay {X rows : va_W} {x : Nat × va_E} {pl : va_W} {D : va_G} {cl : List vw_C} {H : Heap} (hP : va_P D cl (((X ++ pl) ++ [x]) ++ rows) H) : va_P D cl ((X ++ [x]) ++ (pl ++ rows)) H := by
  rw [List.append_assoc (X ++ pl)] at hP
  have h := va_P.swap hP
  rw [← List.append_assoc X] at h
  have h2 := va_P.swap h
  rw [List.append_assoc (X ++ [x])] at h2
  exact h2
theorem vr_layD {X rows : va_W} {x : Nat × va_E} {pl : va_W} {A : Nat → Prop} (hD : va_D A (((X ++ pl) ++ [x]) ++ rows)) : va_D A ((X ++ [x]) ++ (pl ++ rows)) := by
  rw [List.append_assoc (X ++ pl)] at hD
  have h := va_D.swap hD
  rw [← List.append_assoc X] at h
  have h2 := va_D.swap h
  rw [List.append_assoc (X ++ [x])] at h2
  exact h2
theorem vr_outer (c : ClassId) (N h0 : Nat) : ∀ i : Nat, Jvm.Free.Multi.outerC c N h0 i = arrV c N (fun j => va_rf (if j < i then some (h0 + 1 + j) else none))
  | 0 => by
    show ({ cls := c, slots := Array.replicate N .null, vm := .none } : Cell) = _
    rw [arrV_new]
    refine congrArg (arrV c N) (funext fun j => ?_)
    simp [va_rf]
  | i + 1 => by
    show (Jvm.Free.Multi.outerC c N h0 i).setSlot i (.ref (h0 + 1 + i)) = _
    rw [vr_outer c N h0 i, arrV_store]
    refine congrArg (arrV c N) (funext fun j => ?_)
    by_cases e : j = i
    · subst e
      simp [updV, va_rf]
    · by_cases h : j < i
      · simp [updV, e, h, Nat.lt_succ_of_lt h]
      · simp [updV, e, h, show ¬ j < i + 1 by omega]
/-! the kit's names call on va_AOA, which no file of the kit has: here as va_AO has it, for an array's type -/
def va_AOA (ty : FieldType) (U : State) : Prop := (Cond.arrayOver (.array ty)).before #[] U = true
theorem va_AOA.of {ty : FieldType} {A : Array Value} {U : State} (h : (Cond.arrayOver (.array ty)).before A U = true) : va_AOA ty U := h
theorem va_AOA.use {ty : FieldType} {A : Array Value} {U : State} (h : va_AOA ty U) : (Cond.arrayOver (.array ty)).before A U = true := h
theorem va_AOA.moved {ty : FieldType} {u U : State} (hvm : u.vm.Alike U.vm) (h : va_AOA ty u) : va_AOA ty U := Jvm.Stand.arrayOver_alikeB hvm h
section VGM
variable {p : Program} {l : Launch} {e : Env} {R : Room} {s : State} {m : MethodId} {args : Array Value} {below : List Frame} {meth : Method} {c : Code} {H : Heap} {locs : List Loc} {cells slots : Nat} {Q : State → Prop}
variable {cc : ByteArray} {pc : Nat} {ls : Array Slot} {rest : List Value} {D : va_G} {cl : List vw_C} {A : Nat → Prop} {a : Nat} {tys : List (ClassId × FieldType)} {ws : va_W} {H0 : Heap}
theorem va_mna {X : va_W} {L : List Nat} {f : Nat → va_E} {cc : ByteArray} (hexec : p.tables.exec = Jvm.exec) (hb : c.code = cc) {own : String} {index : Nat} {ty : FieldType} {cy : ClassId} (hown : s.vm.findClass own = some m.cls) (hclink : (Cond.classLink own index ("[" ++ (FieldType.array ty).toString)).before args s = true) (hover : va_AOA ty s) (harr : (Cond.arrayClass ty).before args s = true) (hcy : s.vm.findClass (FieldType.array ty).toString = some cy)
    (hK : va_K D cl tys s) (hP : va_P D cl (X ++ va_pl L f) H) (hD : va_D A (X ++ va_pl L f)) (hS : va_S A H0 H locs) (hA : ∀ q, H0.size ≤ q → A q) {n k : Int32} {N' K' : Nat} {z : vp_A} (hn : ¬ n < 0) (hk : ¬ k < 0) (hN : n.toNatClampNeg = N') (hM : k.toNatClampNeg = K')
    (hb1 : N' * 4 ≤ 536870912) (hb2 : K' * componentBytes ty ≤ 536870912) (hb3 : K' ≤ 536870912) (hdf : fits ty (defaultValue ty) = true) (hdd : (defaultValue ty).isDefault = true) (hcells : cells + (1 + N') ≤ R.cells) (hslots : slots + (N' + N' * K') ≤ R.slots) (hz : ∀ c : ClassId, Jvm.Free.Multi.innerC c K' (defaultValue ty) = vp_cell c z) (hdg : decode cc pc = .ok (.multianewarray index 2, 4))
    (kk : ∀ (q : Nat) (r : Nat → Nat) (cA : ClassId) (H1 : Heap), (∀ i j : Nat, i < N' → j < N' → r i = r j → i = j) → (∀ i : Nat, i < N' → r i ∉ L) → va_K D cl (tys ++ [(cA, .array ty)]) s →
      va_P D cl ((X ++ [(q, .inl (cA, N', .inr (.inr (.inr (.inr (fun i => if i < N' then some (r i) else none))))))]) ++ va_pl (L ++ (List.range N').map r) (vr_up f ((List.range N').map r) (.inl (cy, z)))) H1 → va_D A ((X ++ [(q, .inl (cA, N', .inr (.inr (.inr (.inr (fun i => if i < N' then some (r i) else none))))))]) ++ va_pl (L ++ (List.range N').map r) (vr_up f ((List.range N').map r) (.inl (cy, z)))) → va_S A H0 H1 locs →
      W p l e R s m args below meth c H1 locs (cells + 1 + N') (slots + N' + N' * K') Q (F0 m (pc + 4) ls (.ref q :: rest))) : W p l e R s m args below meth c H locs cells slots Q (F0 m pc ls (.int k :: .int n :: rest)) := by
  subst hN
  subst hM
  intro T hT Xs
  obtain ⟨vm₁, cA, comp, -, fA, fC, hO, -, X', step⟩ := Xs.multianewarray2F hexec hown hclink (va_AOA.use hover) harr (g := F0 m pc ls (.int k :: .int n :: rest)) rfl (by rw [hb]; exact hdg) rfl hn hk hb1 hb2 hb3 hdf hdd hcells hslots
  have ec : some cy = some comp := hcy.symm.trans fC
  cases ec
  generalize hF : Jvm.Free.Multi.fill (T.setVm vm₁) cA cy n.toNatClampNeg k.toNatClampNeg (defaultValue ty) n.toNatClampNeg = F at X' step
  have hTh : (T.setVm vm₁).heap = H := hT
  obtain ⟨f1, f2, -, -⟩ := Jvm.Free.Multi.fill_facts (T.setVm vm₁) cA cy n.toNatClampNeg k.toNatClampNeg (defaultValue ty) n.toNatClampNeg
  rw [hF, hTh] at f1 f2
  have hold : ∀ x : Nat, x < H.size → F.heap[x]? = H[x]? := fun x hx => by
    have := Jvm.Free.Multi.fill_old (T.setVm vm₁) cA cy n.toNatClampNeg k.toNatClampNeg (defaultValue ty) (a := x) (by rw [hTh]; exact hx) n.toNatClampNeg
    rw [hF, hTh] at this
    exact this
  have hrow : ∀ j : Nat, j < n.toNatClampNeg → F.heap[H.size + 1 + j]? = some (vp_cell cy z) := fun j hj => by
    have := Jvm.Free.Multi.fill_inner (T.setVm vm₁) cA cy n.toNatClampNeg k.toNatClampNeg (defaultValue ty) n.toNatClampNeg j hj
    rw [hF, hTh, hz] at this
    exact this
  have hout : Jvm.Free.Multi.outerC cA n.toNatClampNeg H.size n.toNatClampNeg = vp_cell cA (n.toNatClampNeg, .inr (.inr (.inr (.inr (fun i => if i < n.toNatClampNeg then some (H.size + 1 + i) else none))))) := by
    rw [vp_cell_q]
    exact vr_outer cA n.toNatClampNeg H.size n.toNatClampNeg
  rw [hout] at f2
  have hlt : ∀ a, a ∈ L → a < H.size := fun a ha => by
    obtain ⟨k9, hk9⟩ := va_pl_get (X := X) (f := f) ha
    exact (hP k9 _ hk9).lt
  have hnl : ∀ i : Nat, i < n.toNatClampNeg → H.size + 1 + i ∉ L := fun i _ h => by
    have := hlt _ h
    omega
  have hnm : ∀ a, a ∈ (List.range n.toNatClampNeg).map (fun i => H.size + 1 + i) → a ∉ L := fun a ha h => by
    obtain ⟨i, -, rfl⟩ := List.mem_map.mp ha
    have := hlt _ h
    omega
  have hP0 : va_P D cl (X ++ va_pl L f) F.heap := hP.kept (fun k9 x hx => hold x.1 ((hP k9 x hx).lt))
  have hP1 : va_P D cl ((X ++ va_pl L f) ++ [(H.size, .inl (cA, n.toNatClampNeg, .inr (.inr (.inr (.inr (fun i => if i < n.toNatClampNeg then some (H.size + 1 + i) else none))))))]) F.heap := hP0.app (fun k9 x hx => by
    have h0 : k9 < 1 := (List.getElem?_eq_some_iff.mp hx).1
    rw [show k9 = 0 by omega] at hx
    cases hx
    exact f2)
  have hP2 : va_P D cl (((X ++ va_pl L f) ++ [(H.size, .inl (cA, n.toNatClampNeg, .inr (.inr (.inr (.inr (fun i => if i < n.toNatClampNeg then some (H.size + 1 + i) else none))))))]) ++ ((List.range n.toNatClampNeg).map (fun i => H.size + 1 + i)).map (fun a => (a, .inl (cy, z)))) F.heap := hP1.app (fun k9 x hx => by
    obtain ⟨a, ha, rfl⟩ := List.mem_map.mp (List.mem_of_getElem? hx)
    obtain ⟨i, hi, rfl⟩ := List.mem_map.mp ha
    exact hrow i (List.mem_range.mp hi))
  have hD2 : va_D A (((X ++ va_pl L f) ++ [(H.size, .inl (cA, n.toNatClampNeg, .inr (.inr (.inr (.inr (fun i => if i < n.toNatClampNeg then some (H.size + 1 + i) else none))))))]) ++ ((List.range n.toNatClampNeg).map (fun i => H.size + 1 + i)).map (fun a => (a, .inl (cy, z)))) := by
    have hD1 := hD.push (e := .inl (cA, n.toNatClampNeg, .inr (.inr (.inr (.inr (fun i => if i < n.toNatClampNeg then some (H.size + 1 + i) else none)))))) hP rfl (hA _ hS.1)
    generalize hW1 : (X ++ va_pl L f) ++ [(H.size, .inl (cA, n.toNatClampNeg, .inr (.inr (.inr (.inr (fun i => if i < n.toNatClampNeg then some (H.size + 1 + i) else none))))))] = W1 at hD1 hP1 ⊢
    have hle : ∀ (k9 : Nat) (x : Nat × va_E), W1[k9]? = some x → x.1 ≤ H.size := fun k9 x hx => by
      rw [← hW1] at hx
      by_cases hl : k9 < (X ++ va_pl L f).length
      · rw [List.getElem?_append_left hl] at hx
        exact Nat.le_of_lt ((hP k9 x hx).lt)
      · rw [List.getElem?_append_right (by omega)] at hx
        have h0 : k9 - (X ++ va_pl L f).length < 1 := (List.getElem?_eq_some_iff.mp hx).1
        rw [show k9 - (X ++ va_pl L f).length = 0 by omega] at hx
        cases hx
        exact Nat.le_refl _
    have hr : ∀ (k9 : Nat) (x : Nat × va_E), (((List.range n.toNatClampNeg).map (fun i => H.size + 1 + i)).map (fun a => ((a, .inl (cy, z)) : Nat × va_E)))[k9]? = some x → x.1 = H.size + 1 + k9 := fun k9 x hx => by
      rw [List.getElem?_map, List.getElem?_map] at hx
      by_cases h9 : k9 < n.toNatClampNeg
      · rw [List.getElem?_range h9] at hx
        cases hx
        rfl
      · have hn0 : (List.range n.toNatClampNeg)[k9]? = none := List.getElem?_eq_none (by rw [List.length_range]; omega)
        rw [hn0] at hx
        cases hx
    refine ⟨fun i j x y hi hj hxy => ?_, fun k9 x hx => ?_⟩
    · by_cases h1 : i < W1.length <;> by_cases h2 : j < W1.length
      · rw [List.getElem?_append_left h1] at hi
        rw [List.getElem?_append_left h2] at hj
        exact hD1.1 i j x y hi hj hxy
      · rw [List.getElem?_append_left h1] at hi
        rw [List.getElem?_append_right (by omega)] at hj
        have := hle _ _ hi
        have := hr _ _ hj
        omega
      · rw [List.getElem?_append_right (by omega)] at hi
        rw [List.getElem?_append_left h2] at hj
        have := hle _ _ hj
        have := hr _ _ hi
        omega
      · rw [List.getElem?_append_right (by omega)] at hi hj
        have := hr _ _ hi
        have := hr _ _ hj
        omega
    · by_cases h1 : k9 < W1.length
      · rw [List.getElem?_append_left h1] at hx
        exact hD1.2 k9 x hx
      · rw [List.getElem?_append_right (by omega)] at hx
        have := hr _ _ hx
        exact hA _ (by have := hS.1; omega)
  have hAr : ArrOfT s cA (.array ty) := fun N9 z9 => by
    obtain ⟨-, k9, hk9, cm9, hkk9⟩ := (hO 0 0 0).1
    exact ⟨(fun q hq => by cases hq), k9, hk9, cm9, hkk9⟩
  have hK2 : va_K D cl (tys ++ [(cA, .array ty)]) s := ⟨hK.1, fun k9 x hx => by
    by_cases hl : k9 < tys.length
    · rw [List.getElem?_append_left hl] at hx
      exact hK.2 k9 x hx
    · rw [List.getElem?_append_right (by omega)] at hx
      have h0 : k9 - tys.length < 1 := (List.getElem?_eq_some_iff.mp hx).1
      rw [show k9 - tys.length = 0 by omega] at hx
      cases hx
      exact ⟨hAr, fA⟩⟩
  obtain ⟨t, a1, b1⟩ := kk H.size (fun i => H.size + 1 + i) cA F.heap (fun i j _ _ h => by have h9 : H.size + 1 + i = H.size + 1 + j := h; omega) hnl hK2 (by rw [← vr_rows hnm]; exact vr_lay hP2) (by rw [← vr_rows hnm]; exact vr_layD hD2) ⟨by rw [f1]; have := hS.1; omega, fun x h1 h2 => (hold x (Nat.lt_of_lt_of_le h1 hS.1)).trans (hS.2.1 x h1 h2), hS.2.2⟩ F rfl X'
  refine ⟨t, step t ?_, b1⟩
  have e : T.heap.size = H.size := by rw [hT]
  rw [e]
  exact a1
end VGM
/-! ===== END ===== -/

/-! ===== BEGIN printed: names, fields, word lists, decode rows ===== -/
end
section
def RX0 : String := "SeatsRound$Acts"
def TX0 : u_T := fun k => match k with
  | 0 => ("SeatsRound$Acts", "bodies", "[I", true)
  | 1 => ("SeatsRound$Acts", "ran", "I", false)
  | 2 => ("SeatsRound$Acts", "own", "I", false)
  | 3 => ("SeatsRound$Acts", "number", "I", false)
  | _ => ("SeatsRound$Acts", "strength", "I", false)
def tyX0 : Nat → FieldType := fun k => match k with
  | 0 => .array .int
  | 1 => .int
  | 2 => .int
  | 3 => .int
  | _ => .int
abbrev wsX00 : List Cond := u_ws RX0 TX0 5
theorem nmX0 : ∀ a, a < 5 → ∀ b, b < 5 → a ≠ b → (TX0 a).2.1 ≠ (TX0 b).2.1 := by decide +kernel
theorem tyX0_ok : ∀ k, k < 5 → parseFieldDescriptor (TX0 k).2.2.1 = some (tyX0 k) := by decide +kernel
abbrev cX0_init : ByteArray := prog_2_method_1_code
def yX0_init : MethodName := ⟨RX0, "<init>", "()V"⟩
def RX1 : String := "SeatsRound$Choice"
def TX1 : u_T := fun k => match k with
  | 0 => ("SeatsRound$Choice", "picks", "[I", true)
  | 1 => ("SeatsRound$Choice", "chosen", "[I", true)
  | 2 => ("SeatsRound$Choice", "pickCount", "I", false)
  | 3 => ("SeatsRound$Choice", "chosenCount", "I", false)
  | 4 => ("SeatsRound$Choice", "chosenBits", "I", false)
  | 5 => ("SeatsRound$Choice", "streetBits", "I", false)
  | 6 => ("SeatsRound$Choice", "pickBits", "I", false)
  | 7 => ("SeatsRound$Choice", "sums", "[I", true)
  | _ => ("SeatsRound$Choice", "keepers", "LSeatsRound$Keepers;", true)
def tyX1 : Nat → FieldType := fun k => match k with
  | 0 => .array .int
  | 1 => .array .int
  | 2 => .int
  | 3 => .int
  | 4 => .int
  | 5 => .int
  | 6 => .int
  | 7 => .array .int
  | _ => .object "SeatsRound$Keepers"
abbrev wsX10 : List Cond := u_ws RX1 TX1 9
theorem nmX1 : ∀ a, a < 9 → ∀ b, b < 9 → a ≠ b → (TX1 a).2.1 ≠ (TX1 b).2.1 := by decide +kernel
theorem tyX1_ok : ∀ k, k < 9 → parseFieldDescriptor (TX1 k).2.2.1 = some (tyX1 k) := by decide +kernel
abbrev cX1_init : ByteArray := prog_3_method_1_code
def yX1_init : MethodName := ⟨RX1, "<init>", "(LSeatsRound$Keepers;)V"⟩
def RX2 : String := "SeatsRound$Keepers"
def TX2 : u_T := fun k => match k with
  | 0 => ("SeatsRound$Keepers", "kind", "[I", true)
  | 1 => ("SeatsRound$Keepers", "street", "[I", true)
  | 2 => ("SeatsRound$Keepers", "strength", "[I", true)
  | 3 => ("SeatsRound$Keepers", "table", "[I", true)
  | 4 => ("SeatsRound$Keepers", "fallen", "[Z", true)
  | _ => ("SeatsRound$Keepers", "count", "I", false)
def tyX2 : Nat → FieldType := fun k => match k with
  | 0 => .array .int
  | 1 => .array .int
  | 2 => .array .int
  | 3 => .array .int
  | 4 => .array .boolean
  | _ => .int
abbrev wsX20 : List Cond := u_ws RX2 TX2 6
theorem nmX2 : ∀ a, a < 6 → ∀ b, b < 6 → a ≠ b → (TX2 a).2.1 ≠ (TX2 b).2.1 := by decide +kernel
theorem tyX2_ok : ∀ k, k < 6 → parseFieldDescriptor (TX2 k).2.2.1 = some (tyX2 k) := by decide +kernel
abbrev cX2_init : ByteArray := prog_4_method_1_code
def yX2_init : MethodName := ⟨RX2, "<init>", "()V"⟩
def RX3 : String := "SeatsRound$Law"
def TX3 : u_T := fun k => match k with
  | 0 => ("SeatsRound$Law", "text", "[B", false)
  | 1 => ("SeatsRound$Law", "length", "I", false)
  | 2 => ("SeatsRound$Law", "at", "I", false)
  | 3 => ("SeatsRound$Law", "fault", "I", false)
  | 4 => ("SeatsRound$Law", "members", "I", false)
  | 5 => ("SeatsRound$Law", "streetsIn", "I", false)
  | 6 => ("SeatsRound$Law", "weights", "I", false)
  | _ => ("SeatsRound$Law", "greatest", "I", false)
def tyX3 : Nat → FieldType := fun k => match k with
  | 0 => .array .byte
  | 1 => .int
  | 2 => .int
  | 3 => .int
  | 4 => .int
  | 5 => .int
  | 6 => .int
  | _ => .int
abbrev wsX30 : List Cond := u_ws RX3 TX3 8
theorem nmX3 : ∀ a, a < 8 → ∀ b, b < 8 → a ≠ b → (TX3 a).2.1 ≠ (TX3 b).2.1 := by decide +kernel
theorem tyX3_ok : ∀ k, k < 8 → parseFieldDescriptor (TX3 k).2.2.1 = some (tyX3 k) := by decide +kernel
abbrev cX3_init : ByteArray := prog_5_method_1_code
def yX3_init : MethodName := ⟨RX3, "<init>", "()V"⟩
def RX4 : String := "SeatsRound$NameList"
def TX4 : u_T := fun k => match k with
  | 0 => ("SeatsRound$NameList", "bytes", "[[B", true)
  | 1 => ("SeatsRound$NameList", "size", "[I", true)
  | 2 => ("SeatsRound$NameList", "read", "[B", true)
  | _ => ("SeatsRound$NameList", "count", "I", false)
def tyX4 : Nat → FieldType := fun k => match k with
  | 0 => .array (.array .byte)
  | 1 => .array .int
  | 2 => .array .byte
  | _ => .int
abbrev wsX40 : List Cond := u_ws RX4 TX4 4
theorem nmX4 : ∀ a, a < 4 → ∀ b, b < 4 → a ≠ b → (TX4 a).2.1 ≠ (TX4 b).2.1 := by decide +kernel
theorem tyX4_ok : ∀ k, k < 4 → parseFieldDescriptor (TX4 k).2.2.1 = some (tyX4 k) := by decide +kernel
abbrev cX4_init : ByteArray := prog_6_method_1_code
def yX4_init : MethodName := ⟨RX4, "<init>", "()V"⟩
def RX5 : String := "SeatsRound$Orders"
def TX5 : u_T := fun k => match k with
  | 0 => ("SeatsRound$Orders", "told", "[I", true)
  | 1 => ("SeatsRound$Orders", "toldCount", "I", false)
  | 2 => ("SeatsRound$Orders", "path", "[I", true)
  | 3 => ("SeatsRound$Orders", "pathLength", "I", false)
  | 4 => ("SeatsRound$Orders", "holders", "[[I", true)
  | 5 => ("SeatsRound$Orders", "least", "[I", true)
  | 6 => ("SeatsRound$Orders", "keepers", "LSeatsRound$Keepers;", true)
  | 7 => ("SeatsRound$Orders", "nameList", "LSeatsRound$NameList;", true)
  | 8 => ("SeatsRound$Orders", "choice", "LSeatsRound$Choice;", true)
  | _ => ("SeatsRound$Orders", "law", "LSeatsRound$Law;", true)
def tyX5 : Nat → FieldType := fun k => match k with
  | 0 => .array .int
  | 1 => .int
  | 2 => .array .int
  | 3 => .int
  | 4 => .array (.array .int)
  | 5 => .array .int
  | 6 => .object "SeatsRound$Keepers"
  | 7 => .object "SeatsRound$NameList"
  | 8 => .object "SeatsRound$Choice"
  | _ => .object "SeatsRound$Law"
abbrev wsX50 : List Cond := u_ws RX5 TX5 10
theorem nmX5 : ∀ a, a < 10 → ∀ b, b < 10 → a ≠ b → (TX5 a).2.1 ≠ (TX5 b).2.1 := by decide +kernel
theorem tyX5_ok : ∀ k, k < 10 → parseFieldDescriptor (TX5 k).2.2.1 = some (tyX5 k) := by decide +kernel
abbrev cX5_init : ByteArray := prog_7_method_1_code
def yX5_init : MethodName := ⟨RX5, "<init>", "(LSeatsRound$Keepers;LSeatsRound$NameList;LSeatsRound$Choice;LSeatsRound$Law;)V"⟩
def RX6 : String := "SeatsRound$Parcels"
def TX6 : u_T := fun k => match k with
  | 0 => ("SeatsRound$Parcels", "version", "[[I", true)
  | 1 => ("SeatsRound$Parcels", "kept", "[[I", true)
  | 2 => ("SeatsRound$Parcels", "keptFor", "[[I", true)
  | 3 => ("SeatsRound$Parcels", "pieces", "[[I", true)
  | 4 => ("SeatsRound$Parcels", "pieceTo", "[[I", true)
  | 5 => ("SeatsRound$Parcels", "latest", "[I", true)
  | 6 => ("SeatsRound$Parcels", "oneTree", "[I", true)
  | 7 => ("SeatsRound$Parcels", "otherTree", "[I", true)
  | 8 => ("SeatsRound$Parcels", "writings", "I", false)
  | 9 => ("SeatsRound$Parcels", "keepers", "LSeatsRound$Keepers;", true)
  | 10 => ("SeatsRound$Parcels", "nameList", "LSeatsRound$NameList;", true)
  | _ => ("SeatsRound$Parcels", "choice", "LSeatsRound$Choice;", true)
def tyX6 : Nat → FieldType := fun k => match k with
  | 0 => .array (.array .int)
  | 1 => .array (.array .int)
  | 2 => .array (.array .int)
  | 3 => .array (.array .int)
  | 4 => .array (.array .int)
  | 5 => .array .int
  | 6 => .array .int
  | 7 => .array .int
  | 8 => .int
  | 9 => .object "SeatsRound$Keepers"
  | 10 => .object "SeatsRound$NameList"
  | _ => .object "SeatsRound$Choice"
abbrev wsX60 : List Cond := u_ws RX6 TX6 12
theorem nmX6 : ∀ a, a < 12 → ∀ b, b < 12 → a ≠ b → (TX6 a).2.1 ≠ (TX6 b).2.1 := by decide +kernel
theorem tyX6_ok : ∀ k, k < 12 → parseFieldDescriptor (TX6 k).2.2.1 = some (tyX6 k) := by decide +kernel
abbrev cX6_init : ByteArray := prog_8_method_1_code
def yX6_init : MethodName := ⟨RX6, "<init>", "(LSeatsRound$Keepers;LSeatsRound$NameList;LSeatsRound$Choice;)V"⟩
def RX7 : String := "SeatsRound$Rows"
def TX7 : u_T := fun k => match k with
  | 0 => ("SeatsRound$Rows", "keeper", "[I", true)
  | 1 => ("SeatsRound$Rows", "sort", "[I", true)
  | 2 => ("SeatsRound$Rows", "length", "[I", true)
  | _ => ("SeatsRound$Rows", "elements", "[[J", true)
def tyX7 : Nat → FieldType := fun k => match k with
  | 0 => .array .int
  | 1 => .array .int
  | 2 => .array .int
  | _ => .array (.array .long)
abbrev wsX70 : List Cond := u_ws RX7 TX7 4
theorem nmX7 : ∀ a, a < 4 → ∀ b, b < 4 → a ≠ b → (TX7 a).2.1 ≠ (TX7 b).2.1 := by decide +kernel
theorem tyX7_ok : ∀ k, k < 4 → parseFieldDescriptor (TX7 k).2.2.1 = some (tyX7 k) := by decide +kernel
abbrev cX7_init : ByteArray := prog_9_method_1_code
def yX7_init : MethodName := ⟨RX7, "<init>", "()V"⟩
def RX8 : String := "SeatsRound$Table"
def TX8 : u_T := fun k => match k with
  | 0 => ("SeatsRound$Table", "members", "I", false)
  | 1 => ("SeatsRound$Table", "turn", "I", false)
  | 2 => ("SeatsRound$Table", "copies", "I", false)
  | 3 => ("SeatsRound$Table", "streets", "I", false)
  | 4 => ("SeatsRound$Table", "way", "I", false)
  | 5 => ("SeatsRound$Table", "seats", "I", false)
  | 6 => ("SeatsRound$Table", "lawLength", "I", false)
  | 7 => ("SeatsRound$Table", "oddsCounted", "Z", false)
  | 8 => ("SeatsRound$Table", "weight", "[I", true)
  | 9 => ("SeatsRound$Table", "odds", "[I", true)
  | 10 => ("SeatsRound$Table", "law", "[B", true)
  | 11 => ("SeatsRound$Table", "owner", "[B", true)
  | _ => ("SeatsRound$Table", "ahead", "[S", true)
def tyX8 : Nat → FieldType := fun k => match k with
  | 0 => .int
  | 1 => .int
  | 2 => .int
  | 3 => .int
  | 4 => .int
  | 5 => .int
  | 6 => .int
  | 7 => .boolean
  | 8 => .array .int
  | 9 => .array .int
  | 10 => .array .byte
  | 11 => .array .byte
  | _ => .array .short
abbrev wsX80 : List Cond := u_ws RX8 TX8 13
theorem nmX8 : ∀ a, a < 13 → ∀ b, b < 13 → a ≠ b → (TX8 a).2.1 ≠ (TX8 b).2.1 := by decide +kernel
theorem tyX8_ok : ∀ k, k < 13 → parseFieldDescriptor (TX8 k).2.2.1 = some (tyX8 k) := by decide +kernel
abbrev cX8_init : ByteArray := prog_10_method_1_code
def yX8_init : MethodName := ⟨RX8, "<init>", "()V"⟩
def RX9 : String := "SeatsRound$Tape"
def TX9 : u_T := fun k => match k with
  | 0 => ("SeatsRound$Tape", "bytes", "[B", true)
  | _ => ("SeatsRound$Tape", "length", "I", false)
def tyX9 : Nat → FieldType := fun k => match k with
  | 0 => .array .byte
  | _ => .int
abbrev wsX90 : List Cond := u_ws RX9 TX9 2
theorem nmX9 : ∀ a, a < 2 → ∀ b, b < 2 → a ≠ b → (TX9 a).2.1 ≠ (TX9 b).2.1 := by decide +kernel
theorem tyX9_ok : ∀ k, k < 2 → parseFieldDescriptor (TX9 k).2.2.1 = some (tyX9 k) := by decide +kernel
abbrev cX9_init : ByteArray := prog_11_method_1_code
def yX9_init : MethodName := ⟨RX9, "<init>", "()V"⟩
def RX10 : String := "SeatsRound$Turnings"
def TX10 : u_T := fun k => match k with
  | 0 => ("SeatsRound$Turnings", "told", "[I", true)
  | 1 => ("SeatsRound$Turnings", "count", "I", false)
  | 2 => ("SeatsRound$Turnings", "greatest", "I", false)
  | 3 => ("SeatsRound$Turnings", "shares", "[I", true)
  | _ => ("SeatsRound$Turnings", "nameList", "LSeatsRound$NameList;", true)
def tyX10 : Nat → FieldType := fun k => match k with
  | 0 => .array .int
  | 1 => .int
  | 2 => .int
  | 3 => .array .int
  | _ => .object "SeatsRound$NameList"
abbrev wsX100 : List Cond := u_ws RX10 TX10 5
theorem nmX10 : ∀ a, a < 5 → ∀ b, b < 5 → a ≠ b → (TX10 a).2.1 ≠ (TX10 b).2.1 := by decide +kernel
theorem tyX10_ok : ∀ k, k < 5 → parseFieldDescriptor (TX10 k).2.2.1 = some (tyX10 k) := by decide +kernel
abbrev cX10_init : ByteArray := prog_12_method_1_code
def yX10_init : MethodName := ⟨RX10, "<init>", "(LSeatsRound$NameList;)V"⟩
def RX11 : String := "SeatsRound"
def TX11 : u_T := fun k => match k with
  | 0 => ("SeatsRound", "tape", "LSeatsRound$Tape;", true)
  | 1 => ("SeatsRound", "nameList", "LSeatsRound$NameList;", true)
  | 2 => ("SeatsRound", "keepers", "LSeatsRound$Keepers;", true)
  | 3 => ("SeatsRound", "law", "LSeatsRound$Law;", true)
  | 4 => ("SeatsRound", "choice", "LSeatsRound$Choice;", true)
  | 5 => ("SeatsRound", "tables", "[LSeatsRound$Table;", true)
  | 6 => ("SeatsRound", "tableCount", "I", false)
  | 7 => ("SeatsRound", "draft", "LSeatsRound$Table;", true)
  | 8 => ("SeatsRound", "parcels", "LSeatsRound$Parcels;", true)
  | 9 => ("SeatsRound", "orders", "LSeatsRound$Orders;", true)
  | 10 => ("SeatsRound", "turnings", "LSeatsRound$Turnings;", true)
  | 11 => ("SeatsRound", "acts", "LSeatsRound$Acts;", true)
  | _ => ("SeatsRound", "rows", "LSeatsRound$Rows;", true)
def tyX11 : Nat → FieldType := fun k => match k with
  | 0 => .object "SeatsRound$Tape"
  | 1 => .object "SeatsRound$NameList"
  | 2 => .object "SeatsRound$Keepers"
  | 3 => .object "SeatsRound$Law"
  | 4 => .object "SeatsRound$Choice"
  | 5 => .array (.object "SeatsRound$Table")
  | 6 => .int
  | 7 => .object "SeatsRound$Table"
  | 8 => .object "SeatsRound$Parcels"
  | 9 => .object "SeatsRound$Orders"
  | 10 => .object "SeatsRound$Turnings"
  | 11 => .object "SeatsRound$Acts"
  | _ => .object "SeatsRound$Rows"
abbrev wsX110 : List Cond := u_ws RX11 TX11 13
theorem nmX11 : ∀ a, a < 13 → ∀ b, b < 13 → a ≠ b → (TX11 a).2.1 ≠ (TX11 b).2.1 := by decide +kernel
theorem tyX11_ok : ∀ k, k < 13 → parseFieldDescriptor (TX11 k).2.2.1 = some (tyX11 k) := by decide +kernel
abbrev cX11_init : ByteArray := prog_1_method_1_code
def yX11_init : MethodName := ⟨RX11, "<init>", "()V"⟩
def yX11_strewn : MethodName := ⟨RX11, "strewn", "(I)I"⟩
def yX11_placeBehind : MethodName := ⟨RX11, "placeBehind", "(I)I"⟩
def RX12 : String := "SeatsRoundModel"
def TX12 : u_T := fun k => match k with
  | 0 => ("SeatsRoundModel", "names", "I", false)
  | 1 => ("SeatsRoundModel", "nameSize", "[I", true)
  | 2 => ("SeatsRoundModel", "nameByte", "[I", true)
  | 3 => ("SeatsRoundModel", "keepers", "I", false)
  | 4 => ("SeatsRoundModel", "street", "[I", true)
  | 5 => ("SeatsRoundModel", "strength", "[I", true)
  | 6 => ("SeatsRoundModel", "kind", "[I", true)
  | 7 => ("SeatsRoundModel", "known", "[I", true)
  | 8 => ("SeatsRoundModel", "isFallen", "[Z", true)
  | 9 => ("SeatsRoundModel", "tables", "I", false)
  | 10 => ("SeatsRoundModel", "tableOf", "[I", true)
  | 11 => ("SeatsRoundModel", "tableZ", "[I", true)
  | 12 => ("SeatsRoundModel", "copies", "[I", true)
  | 13 => ("SeatsRoundModel", "streets", "[I", true)
  | 14 => ("SeatsRoundModel", "picks", "[I", true)
  | 15 => ("SeatsRoundModel", "lawSize", "[I", true)
  | 16 => ("SeatsRoundModel", "lawByte", "[I", true)
  | 17 => ("SeatsRoundModel", "counts", "[I", true)
  | 18 => ("SeatsRoundModel", "streetIn", "[I", true)
  | 19 => ("SeatsRoundModel", "seatMany", "[I", true)
  | 20 => ("SeatsRoundModel", "seats", "[I", true)
  | 21 => ("SeatsRoundModel", "tape", "[I", true)
  | 22 => ("SeatsRoundModel", "taped", "I", false)
  | 23 => ("SeatsRoundModel", "version", "[I", true)
  | 24 => ("SeatsRoundModel", "kept", "[I", true)
  | 25 => ("SeatsRoundModel", "keptFor", "[I", true)
  | 26 => ("SeatsRoundModel", "pieces", "[I", true)
  | 27 => ("SeatsRoundModel", "piecesTo", "[I", true)
  | 28 => ("SeatsRoundModel", "written", "[I", true)
  | 29 => ("SeatsRoundModel", "writings", "I", false)
  | 30 => ("SeatsRoundModel", "comers", "I", false)
  | 31 => ("SeatsRoundModel", "comer", "[I", true)
  | 32 => ("SeatsRoundModel", "orderMany", "I", false)
  | 33 => ("SeatsRoundModel", "orderTold", "[I", true)
  | 34 => ("SeatsRoundModel", "turnings", "I", false)
  | 35 => ("SeatsRoundModel", "turning", "[I", true)
  | 36 => ("SeatsRoundModel", "harmShare", "I", false)
  | 37 => ("SeatsRoundModel", "trace", "[I", true)
  | 38 => ("SeatsRoundModel", "bodies", "I", false)
  | 39 => ("SeatsRoundModel", "shelfIs", "[I", true)
  | 40 => ("SeatsRoundModel", "shelfSort", "[I", true)
  | 41 => ("SeatsRoundModel", "shelfSize", "[I", true)
  | 42 => ("SeatsRoundModel", "elements", "[J", true)
  | 43 => ("SeatsRoundModel", "told", "[I", true)
  | 44 => ("SeatsRoundModel", "lawTable", "I", false)
  | 45 => ("SeatsRoundModel", "at", "I", false)
  | 46 => ("SeatsRoundModel", "opens", "I", false)
  | 47 => ("SeatsRoundModel", "isFaulty", "Z", false)
  | 48 => ("SeatsRoundModel", "nowN", "I", false)
  | 49 => ("SeatsRoundModel", "nowU", "I", false)
  | 50 => ("SeatsRoundModel", "nowT", "I", false)
  | 51 => ("SeatsRoundModel", "nowX", "I", false)
  | 52 => ("SeatsRoundModel", "picked", "[I", true)
  | 53 => ("SeatsRoundModel", "pickedMany", "I", false)
  | 54 => ("SeatsRoundModel", "chosen", "[I", true)
  | 55 => ("SeatsRoundModel", "chosenMany", "I", false)
  | 56 => ("SeatsRoundModel", "odds", "[I", true)
  | 57 => ("SeatsRoundModel", "keepsBy", "[I", true)
  | _ => ("SeatsRoundModel", "tried", "[I", true)
def tyX12 : Nat → FieldType := fun k => match k with
  | 0 => .int
  | 1 => .array .int
  | 2 => .array .int
  | 3 => .int
  | 4 => .array .int
  | 5 => .array .int
  | 6 => .array .int
  | 7 => .array .int
  | 8 => .array .boolean
  | 9 => .int
  | 10 => .array .int
  | 11 => .array .int
  | 12 => .array .int
  | 13 => .array .int
  | 14 => .array .int
  | 15 => .array .int
  | 16 => .array .int
  | 17 => .array .int
  | 18 => .array .int
  | 19 => .array .int
  | 20 => .array .int
  | 21 => .array .int
  | 22 => .int
  | 23 => .array .int
  | 24 => .array .int
  | 25 => .array .int
  | 26 => .array .int
  | 27 => .array .int
  | 28 => .array .int
  | 29 => .int
  | 30 => .int
  | 31 => .array .int
  | 32 => .int
  | 33 => .array .int
  | 34 => .int
  | 35 => .array .int
  | 36 => .int
  | 37 => .array .int
  | 38 => .int
  | 39 => .array .int
  | 40 => .array .int
  | 41 => .array .int
  | 42 => .array .long
  | 43 => .array .int
  | 44 => .int
  | 45 => .int
  | 46 => .int
  | 47 => .boolean
  | 48 => .int
  | 49 => .int
  | 50 => .int
  | 51 => .int
  | 52 => .array .int
  | 53 => .int
  | 54 => .array .int
  | 55 => .int
  | 56 => .array .int
  | 57 => .array .int
  | _ => .array .int
def RJ7 : String := "java/util/Arrays"
abbrev cJ7_fill_d0a16 : ByteArray := prog_18_method_101_code
def yJ7_fill_d0a16 : MethodName := ⟨RJ7, "fill", "([JJ)V"⟩
abbrev cJ7_fill_53178 : ByteArray := prog_18_method_103_code
def yJ7_fill_53178 : MethodName := ⟨RJ7, "fill", "([II)V"⟩
def wsX0_init : List Cond := .code yX0_init cX0_init 1 none :: ([.methodLink RX0 3 objectInit, .instanceMethod objectInit, .code objectInit ⟨#[0xb1]⟩ 1 none, .arrayClass .int, .fieldLink RX0 9 "SeatsRound$Acts" "bodies" "[I", .fieldLink RX0 15 "SeatsRound$Acts" "ran" "I", .fieldLink RX0 19 "SeatsRound$Acts" "own" "I", .fieldLink RX0 22 "SeatsRound$Acts" "number" "I", .fieldLink RX0 25 "SeatsRound$Acts" "strength" "I"] ++ wsX00)
def wsX1_init : List Cond := .code yX1_init cX1_init 2 none :: ([.methodLink RX1 3 objectInit, .instanceMethod objectInit, .code objectInit ⟨#[0xb1]⟩ 1 none, .arrayClass .int, .fieldLink RX1 9 "SeatsRound$Choice" "picks" "[I", .fieldLink RX1 15 "SeatsRound$Choice" "chosen" "[I", .fieldLink RX1 18 "SeatsRound$Choice" "pickCount" "I", .fieldLink RX1 22 "SeatsRound$Choice" "chosenCount" "I", .fieldLink RX1 25 "SeatsRound$Choice" "chosenBits" "I", .fieldLink RX1 28 "SeatsRound$Choice" "streetBits" "I", .fieldLink RX1 31 "SeatsRound$Choice" "pickBits" "I", .fieldLink RX1 34 "SeatsRound$Choice" "sums" "[I", .fieldLink RX1 37 "SeatsRound$Choice" "keepers" "LSeatsRound$Keepers;"] ++ wsX10)
def wsX2_init : List Cond := .code yX2_init cX2_init 1 none :: ([.methodLink RX2 3 objectInit, .instanceMethod objectInit, .code objectInit ⟨#[0xb1]⟩ 1 none, .arrayClass .int, .fieldLink RX2 9 "SeatsRound$Keepers" "kind" "[I", .fieldLink RX2 15 "SeatsRound$Keepers" "street" "[I", .fieldLink RX2 18 "SeatsRound$Keepers" "strength" "[I", .fieldLink RX2 21 "SeatsRound$Keepers" "table" "[I", .arrayClass .boolean, .fieldLink RX2 24 "SeatsRound$Keepers" "fallen" "[Z", .fieldLink RX2 28 "SeatsRound$Keepers" "count" "I"] ++ wsX20)
def wsX3_init : List Cond := .code yX3_init cX3_init 1 none :: ([.methodLink RX3 3 objectInit, .instanceMethod objectInit, .code objectInit ⟨#[0xb1]⟩ 1 none, .arrayClass .byte, .fieldLink RX3 9 "SeatsRound$Law" "text" "[B", .fieldLink RX3 15 "SeatsRound$Law" "length" "I", .fieldLink RX3 19 "SeatsRound$Law" "at" "I", .fieldLink RX3 22 "SeatsRound$Law" "fault" "I", .fieldLink RX3 25 "SeatsRound$Law" "members" "I", .fieldLink RX3 28 "SeatsRound$Law" "streetsIn" "I", .fieldLink RX3 31 "SeatsRound$Law" "weights" "I", .fieldLink RX3 34 "SeatsRound$Law" "greatest" "I"] ++ wsX30)
def wsX4_init : List Cond := .code yX4_init cX4_init 1 none :: ([.methodLink RX4 3 objectInit, .instanceMethod objectInit, .code objectInit ⟨#[0xb1]⟩ 1 none, .classLink RX4 9 "[[B", .arrayClass .byte, .fieldLink RX4 11 "SeatsRound$NameList" "bytes" "[[B", .arrayClass .int, .fieldLink RX4 16 "SeatsRound$NameList" "size" "[I", .fieldLink RX4 20 "SeatsRound$NameList" "read" "[B", .fieldLink RX4 24 "SeatsRound$NameList" "count" "I"] ++ wsX40)
def wsX5_init : List Cond := .code yX5_init cX5_init 5 none :: ([.methodLink RX5 3 objectInit, .instanceMethod objectInit, .code objectInit ⟨#[0xb1]⟩ 1 none, .arrayClass .int, .fieldLink RX5 9 "SeatsRound$Orders" "told" "[I", .fieldLink RX5 15 "SeatsRound$Orders" "toldCount" "I", .fieldLink RX5 19 "SeatsRound$Orders" "path" "[I", .fieldLink RX5 22 "SeatsRound$Orders" "pathLength" "I", .classLink RX5 25 "[[I", .fieldLink RX5 27 "SeatsRound$Orders" "holders" "[[I", .fieldLink RX5 30 "SeatsRound$Orders" "least" "[I", .fieldLink RX5 33 "SeatsRound$Orders" "keepers" "LSeatsRound$Keepers;", .fieldLink RX5 37 "SeatsRound$Orders" "nameList" "LSeatsRound$NameList;", .fieldLink RX5 41 "SeatsRound$Orders" "choice" "LSeatsRound$Choice;", .fieldLink RX5 45 "SeatsRound$Orders" "law" "LSeatsRound$Law;"] ++ wsX50)
def wsX6_init : List Cond := .code yX6_init cX6_init 4 none :: ([.methodLink RX6 3 objectInit, .instanceMethod objectInit, .code objectInit ⟨#[0xb1]⟩ 1 none, .classLink RX6 9 "[[I", .arrayClass .int, .fieldLink RX6 11 "SeatsRound$Parcels" "version" "[[I", .fieldLink RX6 16 "SeatsRound$Parcels" "kept" "[[I", .fieldLink RX6 19 "SeatsRound$Parcels" "keptFor" "[[I", .fieldLink RX6 22 "SeatsRound$Parcels" "pieces" "[[I", .fieldLink RX6 25 "SeatsRound$Parcels" "pieceTo" "[[I", .fieldLink RX6 28 "SeatsRound$Parcels" "latest" "[I", .fieldLink RX6 32 "SeatsRound$Parcels" "oneTree" "[I", .fieldLink RX6 35 "SeatsRound$Parcels" "otherTree" "[I", .fieldLink RX6 38 "SeatsRound$Parcels" "writings" "I", .fieldLink RX6 42 "SeatsRound$Parcels" "keepers" "LSeatsRound$Keepers;", .fieldLink RX6 46 "SeatsRound$Parcels" "nameList" "LSeatsRound$NameList;", .fieldLink RX6 50 "SeatsRound$Parcels" "choice" "LSeatsRound$Choice;"] ++ wsX60)
def wsJ7_fill_53178 : List Cond := .code yJ7_fill_53178 cJ7_fill_53178 4 none :: ([])
def wsX7_init : List Cond := .code yX7_init cX7_init 1 none :: ([.methodLink RX7 3 objectInit, .instanceMethod objectInit, .code objectInit ⟨#[0xb1]⟩ 1 none, .arrayClass .int, .fieldLink RX7 9 "SeatsRound$Rows" "keeper" "[I", .fieldLink RX7 15 "SeatsRound$Rows" "sort" "[I", .fieldLink RX7 18 "SeatsRound$Rows" "length" "[I", .classLink RX7 21 "[[J", .arrayClass .long, .fieldLink RX7 23 "SeatsRound$Rows" "elements" "[[J", .methodLink RX7 26 yJ7_fill_53178, .static yJ7_fill_53178, .initialized RJ7, .code yJ7_fill_53178 cJ7_fill_53178 4 none] ++ wsX70)
def wsJ7_fill_d0a16 : List Cond := .code yJ7_fill_d0a16 cJ7_fill_d0a16 5 none :: ([])
def wsX8_init : List Cond := .code yX8_init cX8_init 1 none :: ([.methodLink RX8 3 objectInit, .instanceMethod objectInit, .code objectInit ⟨#[0xb1]⟩ 1 none, .fieldLink RX8 9 "SeatsRound$Table" "members" "I", .fieldLink RX8 15 "SeatsRound$Table" "turn" "I", .fieldLink RX8 18 "SeatsRound$Table" "copies" "I", .fieldLink RX8 21 "SeatsRound$Table" "streets" "I", .fieldLink RX8 24 "SeatsRound$Table" "way" "I", .fieldLink RX8 27 "SeatsRound$Table" "seats" "I", .fieldLink RX8 30 "SeatsRound$Table" "lawLength" "I", .fieldLink RX8 33 "SeatsRound$Table" "oddsCounted" "Z", .arrayClass .int, .fieldLink RX8 37 "SeatsRound$Table" "weight" "[I", .fieldLink RX8 41 "SeatsRound$Table" "odds" "[I", .arrayClass .byte, .fieldLink RX8 44 "SeatsRound$Table" "law" "[B", .fieldLink RX8 48 "SeatsRound$Table" "owner" "[B", .arrayClass .short, .fieldLink RX8 51 "SeatsRound$Table" "ahead" "[S"] ++ wsX80)
def wsX9_init : List Cond := .code yX9_init cX9_init 1 none :: ([.methodLink RX9 3 objectInit, .instanceMethod objectInit, .code objectInit ⟨#[0xb1]⟩ 1 none, .arrayClass .byte, .fieldLink RX9 9 "SeatsRound$Tape" "bytes" "[B", .fieldLink RX9 15 "SeatsRound$Tape" "length" "I"] ++ wsX90)
def wsX10_init : List Cond := .code yX10_init cX10_init 2 none :: ([.methodLink RX10 3 objectInit, .instanceMethod objectInit, .code objectInit ⟨#[0xb1]⟩ 1 none, .arrayClass .int, .fieldLink RX10 9 "SeatsRound$Turnings" "told" "[I", .fieldLink RX10 15 "SeatsRound$Turnings" "count" "I", .fieldLink RX10 19 "SeatsRound$Turnings" "greatest" "I", .fieldLink RX10 22 "SeatsRound$Turnings" "shares" "[I", .fieldLink RX10 25 "SeatsRound$Turnings" "nameList" "LSeatsRound$NameList;"] ++ wsX100)
def wsX11_init_r1 : List Cond := [Cond.methodLink RX11 1 objectInit, Cond.instanceMethod objectInit, Cond.code objectInit ⟨#[0xb1]⟩ 1 none, Cond.classLink RX11 7 RX9, Cond.instantiable RX9 2, Cond.initialized RX9, Cond.fieldLink RX11 10 "SeatsRound" "tape" "LSeatsRound$Tape;", Cond.classLink RX11 16 RX4, Cond.instantiable RX4 4, Cond.initialized RX4, Cond.fieldLink RX11 19 "SeatsRound" "nameList" "LSeatsRound$NameList;", Cond.classLink RX11 23 RX2, Cond.instantiable RX2 6, Cond.initialized RX2, Cond.fieldLink RX11 26 "SeatsRound" "keepers" "LSeatsRound$Keepers;", Cond.classLink RX11 30 RX3, Cond.instantiable RX3 8, Cond.initialized RX3, Cond.fieldLink RX11 33 "SeatsRound" "law" "LSeatsRound$Law;", Cond.classLink RX11 37 RX1, Cond.instantiable RX1 9, Cond.initialized RX1, Cond.fieldLink RX11 42 "SeatsRound" "choice" "LSeatsRound$Choice;", Cond.classLink RX11 46 RX8]
def wsX11_init_r2 : List Cond := [Cond.fieldLink RX11 48 "SeatsRound" "tables" "[LSeatsRound$Table;", Cond.fieldLink RX11 52 "SeatsRound" "tableCount" "I", Cond.instantiable RX8 13, Cond.initialized RX8, Cond.fieldLink RX11 57 "SeatsRound" "draft" "LSeatsRound$Table;", Cond.classLink RX11 61 RX6, Cond.instantiable RX6 12, Cond.initialized RX6, Cond.fieldLink RX11 66 "SeatsRound" "parcels" "LSeatsRound$Parcels;", Cond.classLink RX11 70 RX5, Cond.instantiable RX5 10, Cond.initialized RX5, Cond.fieldLink RX11 75 "SeatsRound" "orders" "LSeatsRound$Orders;", Cond.classLink RX11 79 RX10, Cond.instantiable RX10 5, Cond.initialized RX10, Cond.fieldLink RX11 84 "SeatsRound" "turnings" "LSeatsRound$Turnings;", Cond.classLink RX11 88 RX0, Cond.instantiable RX0 5, Cond.initialized RX0, Cond.fieldLink RX11 91 "SeatsRound" "acts" "LSeatsRound$Acts;", Cond.classLink RX11 95 RX7, Cond.instantiable RX7 4, Cond.initialized RX7]
def wsX11_init_r3 : List Cond := [Cond.fieldLink RX11 98 "SeatsRound" "rows" "LSeatsRound$Rows;", Cond.instanceMethod yX9_init, Cond.code yX9_init cX9_init 1 none, Cond.methodLink RX9 3 objectInit, Cond.arrayClass .byte, Cond.fieldLink RX9 9 "SeatsRound$Tape" "bytes" "[B", Cond.fieldLink RX9 15 "SeatsRound$Tape" "length" "I", Cond.instanceMethod yX4_init, Cond.code yX4_init cX4_init 1 none, Cond.methodLink RX4 3 objectInit, Cond.classLink RX4 9 "[[B", Cond.fieldLink RX4 11 "SeatsRound$NameList" "bytes" "[[B", Cond.arrayClass .int, Cond.fieldLink RX4 16 "SeatsRound$NameList" "size" "[I", Cond.fieldLink RX4 20 "SeatsRound$NameList" "read" "[B", Cond.fieldLink RX4 24 "SeatsRound$NameList" "count" "I", Cond.instanceMethod yX2_init, Cond.code yX2_init cX2_init 1 none, Cond.methodLink RX2 3 objectInit, Cond.fieldLink RX2 9 "SeatsRound$Keepers" "kind" "[I", Cond.fieldLink RX2 15 "SeatsRound$Keepers" "street" "[I", Cond.fieldLink RX2 18 "SeatsRound$Keepers" "strength" "[I", Cond.fieldLink RX2 21 "SeatsRound$Keepers" "table" "[I", Cond.arrayClass .boolean]
def wsX11_init_r4 : List Cond := [Cond.fieldLink RX2 24 "SeatsRound$Keepers" "fallen" "[Z", Cond.fieldLink RX2 28 "SeatsRound$Keepers" "count" "I", Cond.instanceMethod yX3_init, Cond.code yX3_init cX3_init 1 none, Cond.methodLink RX3 3 objectInit, Cond.fieldLink RX3 9 "SeatsRound$Law" "text" "[B", Cond.fieldLink RX3 15 "SeatsRound$Law" "length" "I", Cond.fieldLink RX3 19 "SeatsRound$Law" "at" "I", Cond.fieldLink RX3 22 "SeatsRound$Law" "fault" "I", Cond.fieldLink RX3 25 "SeatsRound$Law" "members" "I", Cond.fieldLink RX3 28 "SeatsRound$Law" "streetsIn" "I", Cond.fieldLink RX3 31 "SeatsRound$Law" "weights" "I", Cond.fieldLink RX3 34 "SeatsRound$Law" "greatest" "I", Cond.methodLink RX11 39 yX1_init, Cond.instanceMethod yX1_init, Cond.code yX1_init cX1_init 2 none, Cond.methodLink RX1 3 objectInit, Cond.fieldLink RX1 9 "SeatsRound$Choice" "picks" "[I", Cond.fieldLink RX1 15 "SeatsRound$Choice" "chosen" "[I", Cond.fieldLink RX1 18 "SeatsRound$Choice" "pickCount" "I", Cond.fieldLink RX1 22 "SeatsRound$Choice" "chosenCount" "I", Cond.fieldLink RX1 25 "SeatsRound$Choice" "chosenBits" "I", Cond.fieldLink RX1 28 "SeatsRound$Choice" "streetBits" "I", Cond.fieldLink RX1 31 "SeatsRound$Choice" "pickBits" "I"]
def wsX11_init_r5 : List Cond := [Cond.fieldLink RX1 34 "SeatsRound$Choice" "sums" "[I", Cond.fieldLink RX1 37 "SeatsRound$Choice" "keepers" "LSeatsRound$Keepers;", Cond.instanceMethod yX8_init, Cond.code yX8_init cX8_init 1 none, Cond.methodLink RX8 3 objectInit, Cond.fieldLink RX8 9 "SeatsRound$Table" "members" "I", Cond.fieldLink RX8 15 "SeatsRound$Table" "turn" "I", Cond.fieldLink RX8 18 "SeatsRound$Table" "copies" "I", Cond.fieldLink RX8 21 "SeatsRound$Table" "streets" "I", Cond.fieldLink RX8 24 "SeatsRound$Table" "way" "I", Cond.fieldLink RX8 27 "SeatsRound$Table" "seats" "I", Cond.fieldLink RX8 30 "SeatsRound$Table" "lawLength" "I", Cond.fieldLink RX8 33 "SeatsRound$Table" "oddsCounted" "Z", Cond.fieldLink RX8 37 "SeatsRound$Table" "weight" "[I", Cond.fieldLink RX8 41 "SeatsRound$Table" "odds" "[I", Cond.fieldLink RX8 44 "SeatsRound$Table" "law" "[B", Cond.fieldLink RX8 48 "SeatsRound$Table" "owner" "[B", Cond.arrayClass .short, Cond.fieldLink RX8 51 "SeatsRound$Table" "ahead" "[S", Cond.methodLink RX11 63 yX6_init, Cond.instanceMethod yX6_init, Cond.code yX6_init cX6_init 4 none, Cond.methodLink RX6 3 objectInit, Cond.classLink RX6 9 "[[I"]
def wsX11_init_r6 : List Cond := [Cond.fieldLink RX6 11 "SeatsRound$Parcels" "version" "[[I", Cond.fieldLink RX6 16 "SeatsRound$Parcels" "kept" "[[I", Cond.fieldLink RX6 19 "SeatsRound$Parcels" "keptFor" "[[I", Cond.fieldLink RX6 22 "SeatsRound$Parcels" "pieces" "[[I", Cond.fieldLink RX6 25 "SeatsRound$Parcels" "pieceTo" "[[I", Cond.fieldLink RX6 28 "SeatsRound$Parcels" "latest" "[I", Cond.fieldLink RX6 32 "SeatsRound$Parcels" "oneTree" "[I", Cond.fieldLink RX6 35 "SeatsRound$Parcels" "otherTree" "[I", Cond.fieldLink RX6 38 "SeatsRound$Parcels" "writings" "I", Cond.fieldLink RX6 42 "SeatsRound$Parcels" "keepers" "LSeatsRound$Keepers;", Cond.fieldLink RX6 46 "SeatsRound$Parcels" "nameList" "LSeatsRound$NameList;", Cond.fieldLink RX6 50 "SeatsRound$Parcels" "choice" "LSeatsRound$Choice;", Cond.methodLink RX11 72 yX5_init, Cond.instanceMethod yX5_init, Cond.code yX5_init cX5_init 5 none, Cond.methodLink RX5 3 objectInit, Cond.fieldLink RX5 9 "SeatsRound$Orders" "told" "[I", Cond.fieldLink RX5 15 "SeatsRound$Orders" "toldCount" "I", Cond.fieldLink RX5 19 "SeatsRound$Orders" "path" "[I", Cond.fieldLink RX5 22 "SeatsRound$Orders" "pathLength" "I", Cond.classLink RX5 25 "[[I", Cond.fieldLink RX5 27 "SeatsRound$Orders" "holders" "[[I", Cond.fieldLink RX5 30 "SeatsRound$Orders" "least" "[I", Cond.fieldLink RX5 33 "SeatsRound$Orders" "keepers" "LSeatsRound$Keepers;"]
def wsX11_init_r7 : List Cond := [Cond.fieldLink RX5 37 "SeatsRound$Orders" "nameList" "LSeatsRound$NameList;", Cond.fieldLink RX5 41 "SeatsRound$Orders" "choice" "LSeatsRound$Choice;", Cond.fieldLink RX5 45 "SeatsRound$Orders" "law" "LSeatsRound$Law;", Cond.methodLink RX11 81 yX10_init, Cond.instanceMethod yX10_init, Cond.code yX10_init cX10_init 2 none, Cond.methodLink RX10 3 objectInit, Cond.fieldLink RX10 9 "SeatsRound$Turnings" "told" "[I", Cond.fieldLink RX10 15 "SeatsRound$Turnings" "count" "I", Cond.fieldLink RX10 19 "SeatsRound$Turnings" "greatest" "I", Cond.fieldLink RX10 22 "SeatsRound$Turnings" "shares" "[I", Cond.fieldLink RX10 25 "SeatsRound$Turnings" "nameList" "LSeatsRound$NameList;", Cond.instanceMethod yX0_init, Cond.code yX0_init cX0_init 1 none, Cond.methodLink RX0 3 objectInit, Cond.fieldLink RX0 9 "SeatsRound$Acts" "bodies" "[I", Cond.fieldLink RX0 15 "SeatsRound$Acts" "ran" "I", Cond.fieldLink RX0 19 "SeatsRound$Acts" "own" "I", Cond.fieldLink RX0 22 "SeatsRound$Acts" "number" "I", Cond.fieldLink RX0 25 "SeatsRound$Acts" "strength" "I", Cond.methodLink RX11 97 yX7_init, Cond.instanceMethod yX7_init, Cond.code yX7_init cX7_init 1 none, Cond.methodLink RX7 3 objectInit]
def wsX11_init_r8 : List Cond := [Cond.fieldLink RX7 9 "SeatsRound$Rows" "keeper" "[I", Cond.fieldLink RX7 15 "SeatsRound$Rows" "sort" "[I", Cond.fieldLink RX7 18 "SeatsRound$Rows" "length" "[I", Cond.classLink RX7 21 "[[J", Cond.arrayClass .long, Cond.fieldLink RX7 23 "SeatsRound$Rows" "elements" "[[J", Cond.methodLink RX7 26 yJ7_fill_53178, Cond.static yJ7_fill_53178, Cond.initialized RJ7, Cond.code yJ7_fill_53178 cJ7_fill_53178 4 none]
def wsX11_init : List Cond := .code yX11_init cX11_init 1 none :: ((wsX11_init_r1 ++ (wsX11_init_r2 ++ (wsX11_init_r3 ++ (wsX11_init_r4 ++ (wsX11_init_r5 ++ (wsX11_init_r6 ++ (wsX11_init_r7 ++ wsX11_init_r8))))))) ++ wsX90 ++ wsX110 ++ wsX40 ++ wsX20 ++ wsX30 ++ wsX10 ++ wsX80 ++ wsX60 ++ wsX50 ++ wsX100 ++ wsX00 ++ wsX70)
theorem dX0_init_0 : decode cX0_init 0 = .ok (.aload_n 0, 1) := by decide +kernel
theorem dX0_init_1 : decode cX0_init 1 = .ok (.invokespecial 3, 3) := by decide +kernel
theorem dX0_init_4 : decode cX0_init 4 = .ok (.aload_n 0, 1) := by decide +kernel
theorem dX0_init_5 : decode cX0_init 5 = .ok (.bipush 24, 2) := by decide +kernel
theorem dX0_init_7 : decode cX0_init 7 = .ok (.newarray .int, 2) := by decide +kernel
theorem dX0_init_9 : decode cX0_init 9 = .ok (.putfield 9, 3) := by decide +kernel
theorem dX0_init_12 : decode cX0_init 12 = .ok (.aload_n 0, 1) := by decide +kernel
theorem dX0_init_13 : decode cX0_init 13 = .ok (.iconst 0, 1) := by decide +kernel
theorem dX0_init_14 : decode cX0_init 14 = .ok (.putfield 15, 3) := by decide +kernel
theorem dX0_init_17 : decode cX0_init 17 = .ok (.aload_n 0, 1) := by decide +kernel
theorem dX0_init_18 : decode cX0_init 18 = .ok (.iconst 0, 1) := by decide +kernel
theorem dX0_init_19 : decode cX0_init 19 = .ok (.putfield 19, 3) := by decide +kernel
theorem dX0_init_22 : decode cX0_init 22 = .ok (.aload_n 0, 1) := by decide +kernel
theorem dX0_init_23 : decode cX0_init 23 = .ok (.iconst 0, 1) := by decide +kernel
theorem dX0_init_24 : decode cX0_init 24 = .ok (.putfield 22, 3) := by decide +kernel
theorem dX0_init_27 : decode cX0_init 27 = .ok (.aload_n 0, 1) := by decide +kernel
theorem dX0_init_28 : decode cX0_init 28 = .ok (.iconst 0, 1) := by decide +kernel
theorem dX0_init_29 : decode cX0_init 29 = .ok (.putfield 25, 3) := by decide +kernel
theorem dX0_init_32 : decode cX0_init 32 = .ok (.return_, 1) := by decide +kernel
theorem dX1_init_0 : decode cX1_init 0 = .ok (.aload_n 0, 1) := by decide +kernel
theorem dX1_init_1 : decode cX1_init 1 = .ok (.invokespecial 3, 3) := by decide +kernel
theorem dX1_init_4 : decode cX1_init 4 = .ok (.aload_n 0, 1) := by decide +kernel
theorem dX1_init_5 : decode cX1_init 5 = .ok (.bipush 12, 2) := by decide +kernel
theorem dX1_init_7 : decode cX1_init 7 = .ok (.newarray .int, 2) := by decide +kernel
theorem dX1_init_9 : decode cX1_init 9 = .ok (.putfield 9, 3) := by decide +kernel
theorem dX1_init_12 : decode cX1_init 12 = .ok (.aload_n 0, 1) := by decide +kernel
theorem dX1_init_13 : decode cX1_init 13 = .ok (.bipush 12, 2) := by decide +kernel
theorem dX1_init_15 : decode cX1_init 15 = .ok (.newarray .int, 2) := by decide +kernel
theorem dX1_init_17 : decode cX1_init 17 = .ok (.putfield 15, 3) := by decide +kernel
theorem dX1_init_20 : decode cX1_init 20 = .ok (.aload_n 0, 1) := by decide +kernel
theorem dX1_init_21 : decode cX1_init 21 = .ok (.iconst 0, 1) := by decide +kernel
theorem dX1_init_22 : decode cX1_init 22 = .ok (.putfield 18, 3) := by decide +kernel
theorem dX1_init_25 : decode cX1_init 25 = .ok (.aload_n 0, 1) := by decide +kernel
theorem dX1_init_26 : decode cX1_init 26 = .ok (.iconst 0, 1) := by decide +kernel
theorem dX1_init_27 : decode cX1_init 27 = .ok (.putfield 22, 3) := by decide +kernel
theorem dX1_init_30 : decode cX1_init 30 = .ok (.aload_n 0, 1) := by decide +kernel
theorem dX1_init_31 : decode cX1_init 31 = .ok (.iconst 0, 1) := by decide +kernel
theorem dX1_init_32 : decode cX1_init 32 = .ok (.putfield 25, 3) := by decide +kernel
theorem dX1_init_35 : decode cX1_init 35 = .ok (.aload_n 0, 1) := by decide +kernel
theorem dX1_init_36 : decode cX1_init 36 = .ok (.iconst 0, 1) := by decide +kernel
theorem dX1_init_37 : decode cX1_init 37 = .ok (.putfield 28, 3) := by decide +kernel
theorem dX1_init_40 : decode cX1_init 40 = .ok (.aload_n 0, 1) := by decide +kernel
theorem dX1_init_41 : decode cX1_init 41 = .ok (.iconst 0, 1) := by decide +kernel
theorem dX1_init_42 : decode cX1_init 42 = .ok (.putfield 31, 3) := by decide +kernel
theorem dX1_init_45 : decode cX1_init 45 = .ok (.aload_n 0, 1) := by decide +kernel
theorem dX1_init_46 : decode cX1_init 46 = .ok (.bipush 12, 2) := by decide +kernel
theorem dX1_init_48 : decode cX1_init 48 = .ok (.newarray .int, 2) := by decide +kernel
theorem dX1_init_50 : decode cX1_init 50 = .ok (.putfield 34, 3) := by decide +kernel
theorem dX1_init_53 : decode cX1_init 53 = .ok (.aload_n 0, 1) := by decide +kernel
theorem dX1_init_54 : decode cX1_init 54 = .ok (.aload_n 1, 1) := by decide +kernel
theorem dX1_init_55 : decode cX1_init 55 = .ok (.putfield 37, 3) := by decide +kernel
theorem dX1_init_58 : decode cX1_init 58 = .ok (.return_, 1) := by decide +kernel
theorem dX2_init_0 : decode cX2_init 0 = .ok (.aload_n 0, 1) := by decide +kernel
theorem dX2_init_1 : decode cX2_init 1 = .ok (.invokespecial 3, 3) := by decide +kernel
theorem dX2_init_4 : decode cX2_init 4 = .ok (.aload_n 0, 1) := by decide +kernel
theorem dX2_init_5 : decode cX2_init 5 = .ok (.bipush 12, 2) := by decide +kernel
theorem dX2_init_7 : decode cX2_init 7 = .ok (.newarray .int, 2) := by decide +kernel
theorem dX2_init_9 : decode cX2_init 9 = .ok (.putfield 9, 3) := by decide +kernel
theorem dX2_init_12 : decode cX2_init 12 = .ok (.aload_n 0, 1) := by decide +kernel
theorem dX2_init_13 : decode cX2_init 13 = .ok (.bipush 12, 2) := by decide +kernel
theorem dX2_init_15 : decode cX2_init 15 = .ok (.newarray .int, 2) := by decide +kernel
theorem dX2_init_17 : decode cX2_init 17 = .ok (.putfield 15, 3) := by decide +kernel
theorem dX2_init_20 : decode cX2_init 20 = .ok (.aload_n 0, 1) := by decide +kernel
theorem dX2_init_21 : decode cX2_init 21 = .ok (.bipush 12, 2) := by decide +kernel
theorem dX2_init_23 : decode cX2_init 23 = .ok (.newarray .int, 2) := by decide +kernel
theorem dX2_init_25 : decode cX2_init 25 = .ok (.putfield 18, 3) := by decide +kernel
theorem dX2_init_28 : decode cX2_init 28 = .ok (.aload_n 0, 1) := by decide +kernel
theorem dX2_init_29 : decode cX2_init 29 = .ok (.bipush 12, 2) := by decide +kernel
theorem dX2_init_31 : decode cX2_init 31 = .ok (.newarray .int, 2) := by decide +kernel
theorem dX2_init_33 : decode cX2_init 33 = .ok (.putfield 21, 3) := by decide +kernel
theorem dX2_init_36 : decode cX2_init 36 = .ok (.aload_n 0, 1) := by decide +kernel
theorem dX2_init_37 : decode cX2_init 37 = .ok (.bipush 12, 2) := by decide +kernel
theorem dX2_init_39 : decode cX2_init 39 = .ok (.newarray .boolean, 2) := by decide +kernel
theorem dX2_init_41 : decode cX2_init 41 = .ok (.putfield 24, 3) := by decide +kernel
theorem dX2_init_44 : decode cX2_init 44 = .ok (.aload_n 0, 1) := by decide +kernel
theorem dX2_init_45 : decode cX2_init 45 = .ok (.iconst 0, 1) := by decide +kernel
theorem dX2_init_46 : decode cX2_init 46 = .ok (.putfield 28, 3) := by decide +kernel
theorem dX2_init_49 : decode cX2_init 49 = .ok (.return_, 1) := by decide +kernel
theorem dX3_init_0 : decode cX3_init 0 = .ok (.aload_n 0, 1) := by decide +kernel
theorem dX3_init_1 : decode cX3_init 1 = .ok (.invokespecial 3, 3) := by decide +kernel
theorem dX3_init_4 : decode cX3_init 4 = .ok (.aload_n 0, 1) := by decide +kernel
theorem dX3_init_5 : decode cX3_init 5 = .ok (.iconst 0, 1) := by decide +kernel
theorem dX3_init_6 : decode cX3_init 6 = .ok (.newarray .byte, 2) := by decide +kernel
theorem dX3_init_8 : decode cX3_init 8 = .ok (.putfield 9, 3) := by decide +kernel
theorem dX3_init_11 : decode cX3_init 11 = .ok (.aload_n 0, 1) := by decide +kernel
theorem dX3_init_12 : decode cX3_init 12 = .ok (.iconst 0, 1) := by decide +kernel
theorem dX3_init_13 : decode cX3_init 13 = .ok (.putfield 15, 3) := by decide +kernel
theorem dX3_init_16 : decode cX3_init 16 = .ok (.aload_n 0, 1) := by decide +kernel
theorem dX3_init_17 : decode cX3_init 17 = .ok (.iconst 0, 1) := by decide +kernel
theorem dX3_init_18 : decode cX3_init 18 = .ok (.putfield 19, 3) := by decide +kernel
theorem dX3_init_21 : decode cX3_init 21 = .ok (.aload_n 0, 1) := by decide +kernel
theorem dX3_init_22 : decode cX3_init 22 = .ok (.iconst (-1), 1) := by decide +kernel
theorem dX3_init_23 : decode cX3_init 23 = .ok (.putfield 22, 3) := by decide +kernel
theorem dX3_init_26 : decode cX3_init 26 = .ok (.aload_n 0, 1) := by decide +kernel
theorem dX3_init_27 : decode cX3_init 27 = .ok (.iconst 0, 1) := by decide +kernel
theorem dX3_init_28 : decode cX3_init 28 = .ok (.putfield 25, 3) := by decide +kernel
theorem dX3_init_31 : decode cX3_init 31 = .ok (.aload_n 0, 1) := by decide +kernel
theorem dX3_init_32 : decode cX3_init 32 = .ok (.iconst 0, 1) := by decide +kernel
theorem dX3_init_33 : decode cX3_init 33 = .ok (.putfield 28, 3) := by decide +kernel
theorem dX3_init_36 : decode cX3_init 36 = .ok (.aload_n 0, 1) := by decide +kernel
theorem dX3_init_37 : decode cX3_init 37 = .ok (.iconst 0, 1) := by decide +kernel
theorem dX3_init_38 : decode cX3_init 38 = .ok (.putfield 31, 3) := by decide +kernel
theorem dX3_init_41 : decode cX3_init 41 = .ok (.aload_n 0, 1) := by decide +kernel
theorem dX3_init_42 : decode cX3_init 42 = .ok (.iconst 0, 1) := by decide +kernel
theorem dX3_init_43 : decode cX3_init 43 = .ok (.putfield 34, 3) := by decide +kernel
theorem dX3_init_46 : decode cX3_init 46 = .ok (.return_, 1) := by decide +kernel
theorem dX4_init_0 : decode cX4_init 0 = .ok (.aload_n 0, 1) := by decide +kernel
theorem dX4_init_1 : decode cX4_init 1 = .ok (.invokespecial 3, 3) := by decide +kernel
theorem dX4_init_4 : decode cX4_init 4 = .ok (.aload_n 0, 1) := by decide +kernel
theorem dX4_init_5 : decode cX4_init 5 = .ok (.bipush 40, 2) := by decide +kernel
theorem dX4_init_7 : decode cX4_init 7 = .ok (.bipush 6, 2) := by decide +kernel
theorem dX4_init_9 : decode cX4_init 9 = .ok (.multianewarray 9 2, 4) := by decide +kernel
theorem dX4_init_13 : decode cX4_init 13 = .ok (.putfield 11, 3) := by decide +kernel
theorem dX4_init_16 : decode cX4_init 16 = .ok (.aload_n 0, 1) := by decide +kernel
theorem dX4_init_17 : decode cX4_init 17 = .ok (.bipush 40, 2) := by decide +kernel
theorem dX4_init_19 : decode cX4_init 19 = .ok (.newarray .int, 2) := by decide +kernel
theorem dX4_init_21 : decode cX4_init 21 = .ok (.putfield 16, 3) := by decide +kernel
theorem dX4_init_24 : decode cX4_init 24 = .ok (.aload_n 0, 1) := by decide +kernel
theorem dX4_init_25 : decode cX4_init 25 = .ok (.bipush 6, 2) := by decide +kernel
theorem dX4_init_27 : decode cX4_init 27 = .ok (.newarray .byte, 2) := by decide +kernel
theorem dX4_init_29 : decode cX4_init 29 = .ok (.putfield 20, 3) := by decide +kernel
theorem dX4_init_32 : decode cX4_init 32 = .ok (.aload_n 0, 1) := by decide +kernel
theorem dX4_init_33 : decode cX4_init 33 = .ok (.iconst 0, 1) := by decide +kernel
theorem dX4_init_34 : decode cX4_init 34 = .ok (.putfield 24, 3) := by decide +kernel
theorem dX4_init_37 : decode cX4_init 37 = .ok (.return_, 1) := by decide +kernel
theorem dX5_init_0 : decode cX5_init 0 = .ok (.aload_n 0, 1) := by decide +kernel
theorem dX5_init_1 : decode cX5_init 1 = .ok (.invokespecial 3, 3) := by decide +kernel
theorem dX5_init_4 : decode cX5_init 4 = .ok (.aload_n 0, 1) := by decide +kernel
theorem dX5_init_5 : decode cX5_init 5 = .ok (.iconst 5, 1) := by decide +kernel
theorem dX5_init_6 : decode cX5_init 6 = .ok (.newarray .int, 2) := by decide +kernel
theorem dX5_init_8 : decode cX5_init 8 = .ok (.putfield 9, 3) := by decide +kernel
theorem dX5_init_11 : decode cX5_init 11 = .ok (.aload_n 0, 1) := by decide +kernel
theorem dX5_init_12 : decode cX5_init 12 = .ok (.iconst 0, 1) := by decide +kernel
theorem dX5_init_13 : decode cX5_init 13 = .ok (.putfield 15, 3) := by decide +kernel
theorem dX5_init_16 : decode cX5_init 16 = .ok (.aload_n 0, 1) := by decide +kernel
theorem dX5_init_17 : decode cX5_init 17 = .ok (.iconst 5, 1) := by decide +kernel
theorem dX5_init_18 : decode cX5_init 18 = .ok (.newarray .int, 2) := by decide +kernel
theorem dX5_init_20 : decode cX5_init 20 = .ok (.putfield 19, 3) := by decide +kernel
theorem dX5_init_23 : decode cX5_init 23 = .ok (.aload_n 0, 1) := by decide +kernel
theorem dX5_init_24 : decode cX5_init 24 = .ok (.iconst 0, 1) := by decide +kernel
theorem dX5_init_25 : decode cX5_init 25 = .ok (.putfield 22, 3) := by decide +kernel
theorem dX5_init_28 : decode cX5_init 28 = .ok (.aload_n 0, 1) := by decide +kernel
theorem dX5_init_29 : decode cX5_init 29 = .ok (.bipush 32, 2) := by decide +kernel
theorem dX5_init_31 : decode cX5_init 31 = .ok (.bipush 40, 2) := by decide +kernel
theorem dX5_init_33 : decode cX5_init 33 = .ok (.multianewarray 25 2, 4) := by decide +kernel
theorem dX5_init_37 : decode cX5_init 37 = .ok (.putfield 27, 3) := by decide +kernel
theorem dX5_init_40 : decode cX5_init 40 = .ok (.aload_n 0, 1) := by decide +kernel
theorem dX5_init_41 : decode cX5_init 41 = .ok (.bipush 32, 2) := by decide +kernel
theorem dX5_init_43 : decode cX5_init 43 = .ok (.newarray .int, 2) := by decide +kernel
theorem dX5_init_45 : decode cX5_init 45 = .ok (.putfield 30, 3) := by decide +kernel
theorem dX5_init_48 : decode cX5_init 48 = .ok (.aload_n 0, 1) := by decide +kernel
theorem dX5_init_49 : decode cX5_init 49 = .ok (.aload_n 1, 1) := by decide +kernel
theorem dX5_init_50 : decode cX5_init 50 = .ok (.putfield 33, 3) := by decide +kernel
theorem dX5_init_53 : decode cX5_init 53 = .ok (.aload_n 0, 1) := by decide +kernel
theorem dX5_init_54 : decode cX5_init 54 = .ok (.aload_n 2, 1) := by decide +kernel
theorem dX5_init_55 : decode cX5_init 55 = .ok (.putfield 37, 3) := by decide +kernel
theorem dX5_init_58 : decode cX5_init 58 = .ok (.aload_n 0, 1) := by decide +kernel
theorem dX5_init_59 : decode cX5_init 59 = .ok (.aload_n 3, 1) := by decide +kernel
theorem dX5_init_60 : decode cX5_init 60 = .ok (.putfield 41, 3) := by decide +kernel
theorem dX5_init_63 : decode cX5_init 63 = .ok (.aload_n 0, 1) := by decide +kernel
theorem dX5_init_64 : decode cX5_init 64 = .ok (.aload 4, 2) := by decide +kernel
theorem dX5_init_66 : decode cX5_init 66 = .ok (.putfield 45, 3) := by decide +kernel
theorem dX5_init_69 : decode cX5_init 69 = .ok (.return_, 1) := by decide +kernel
theorem dX6_init_0 : decode cX6_init 0 = .ok (.aload_n 0, 1) := by decide +kernel
theorem dX6_init_1 : decode cX6_init 1 = .ok (.invokespecial 3, 3) := by decide +kernel
theorem dX6_init_4 : decode cX6_init 4 = .ok (.aload_n 0, 1) := by decide +kernel
theorem dX6_init_5 : decode cX6_init 5 = .ok (.bipush 12, 2) := by decide +kernel
theorem dX6_init_7 : decode cX6_init 7 = .ok (.bipush 40, 2) := by decide +kernel
theorem dX6_init_9 : decode cX6_init 9 = .ok (.multianewarray 9 2, 4) := by decide +kernel
theorem dX6_init_13 : decode cX6_init 13 = .ok (.putfield 11, 3) := by decide +kernel
theorem dX6_init_16 : decode cX6_init 16 = .ok (.aload_n 0, 1) := by decide +kernel
theorem dX6_init_17 : decode cX6_init 17 = .ok (.bipush 12, 2) := by decide +kernel
theorem dX6_init_19 : decode cX6_init 19 = .ok (.bipush 40, 2) := by decide +kernel
theorem dX6_init_21 : decode cX6_init 21 = .ok (.multianewarray 9 2, 4) := by decide +kernel
theorem dX6_init_25 : decode cX6_init 25 = .ok (.putfield 16, 3) := by decide +kernel
theorem dX6_init_28 : decode cX6_init 28 = .ok (.aload_n 0, 1) := by decide +kernel
theorem dX6_init_29 : decode cX6_init 29 = .ok (.bipush 12, 2) := by decide +kernel
theorem dX6_init_31 : decode cX6_init 31 = .ok (.bipush 40, 2) := by decide +kernel
theorem dX6_init_33 : decode cX6_init 33 = .ok (.multianewarray 9 2, 4) := by decide +kernel
theorem dX6_init_37 : decode cX6_init 37 = .ok (.putfield 19, 3) := by decide +kernel
theorem dX6_init_40 : decode cX6_init 40 = .ok (.aload_n 0, 1) := by decide +kernel
theorem dX6_init_41 : decode cX6_init 41 = .ok (.bipush 12, 2) := by decide +kernel
theorem dX6_init_43 : decode cX6_init 43 = .ok (.bipush 40, 2) := by decide +kernel
theorem dX6_init_45 : decode cX6_init 45 = .ok (.multianewarray 9 2, 4) := by decide +kernel
theorem dX6_init_49 : decode cX6_init 49 = .ok (.putfield 22, 3) := by decide +kernel
theorem dX6_init_52 : decode cX6_init 52 = .ok (.aload_n 0, 1) := by decide +kernel
theorem dX6_init_53 : decode cX6_init 53 = .ok (.bipush 12, 2) := by decide +kernel
theorem dX6_init_55 : decode cX6_init 55 = .ok (.bipush 40, 2) := by decide +kernel
theorem dX6_init_57 : decode cX6_init 57 = .ok (.multianewarray 9 2, 4) := by decide +kernel
theorem dX6_init_61 : decode cX6_init 61 = .ok (.putfield 25, 3) := by decide +kernel
theorem dX6_init_64 : decode cX6_init 64 = .ok (.aload_n 0, 1) := by decide +kernel
theorem dX6_init_65 : decode cX6_init 65 = .ok (.bipush 40, 2) := by decide +kernel
theorem dX6_init_67 : decode cX6_init 67 = .ok (.newarray .int, 2) := by decide +kernel
theorem dX6_init_69 : decode cX6_init 69 = .ok (.putfield 28, 3) := by decide +kernel
theorem dX6_init_72 : decode cX6_init 72 = .ok (.aload_n 0, 1) := by decide +kernel
theorem dX6_init_73 : decode cX6_init 73 = .ok (.bipush 16, 2) := by decide +kernel
theorem dX6_init_75 : decode cX6_init 75 = .ok (.newarray .int, 2) := by decide +kernel
theorem dX6_init_77 : decode cX6_init 77 = .ok (.putfield 32, 3) := by decide +kernel
theorem dX6_init_80 : decode cX6_init 80 = .ok (.aload_n 0, 1) := by decide +kernel
theorem dX6_init_81 : decode cX6_init 81 = .ok (.bipush 16, 2) := by decide +kernel
theorem dX6_init_83 : decode cX6_init 83 = .ok (.newarray .int, 2) := by decide +kernel
theorem dX6_init_85 : decode cX6_init 85 = .ok (.putfield 35, 3) := by decide +kernel
theorem dX6_init_88 : decode cX6_init 88 = .ok (.aload_n 0, 1) := by decide +kernel
theorem dX6_init_89 : decode cX6_init 89 = .ok (.iconst 0, 1) := by decide +kernel
theorem dX6_init_90 : decode cX6_init 90 = .ok (.putfield 38, 3) := by decide +kernel
theorem dX6_init_93 : decode cX6_init 93 = .ok (.aload_n 0, 1) := by decide +kernel
theorem dX6_init_94 : decode cX6_init 94 = .ok (.aload_n 1, 1) := by decide +kernel
theorem dX6_init_95 : decode cX6_init 95 = .ok (.putfield 42, 3) := by decide +kernel
theorem dX6_init_98 : decode cX6_init 98 = .ok (.aload_n 0, 1) := by decide +kernel
theorem dX6_init_99 : decode cX6_init 99 = .ok (.aload_n 2, 1) := by decide +kernel
theorem dX6_init_100 : decode cX6_init 100 = .ok (.putfield 46, 3) := by decide +kernel
theorem dX6_init_103 : decode cX6_init 103 = .ok (.aload_n 0, 1) := by decide +kernel
theorem dX6_init_104 : decode cX6_init 104 = .ok (.aload_n 3, 1) := by decide +kernel
theorem dX6_init_105 : decode cX6_init 105 = .ok (.putfield 50, 3) := by decide +kernel
theorem dX6_init_108 : decode cX6_init 108 = .ok (.return_, 1) := by decide +kernel
set_option maxRecDepth 20000 in
theorem ggX7_init_J7_fill_53178 : GoodIn wsX7_init wsJ7_fill_53178 := goodIn_r _ [14] (by decide +kernel) (by decide +kernel)
set_option maxRecDepth 20000 in
theorem gX7_init_J7_fill_53178 : GoodIn wsX7_init (va_wsS RX7 26 yJ7_fill_53178 wsJ7_fill_53178) := goodIn_app (goodIn_of _ (by decide +kernel)) ggX7_init_J7_fill_53178
theorem dX7_init_0 : decode cX7_init 0 = .ok (.aload_n 0, 1) := by decide +kernel
theorem dX7_init_1 : decode cX7_init 1 = .ok (.invokespecial 3, 3) := by decide +kernel
theorem dX7_init_4 : decode cX7_init 4 = .ok (.aload_n 0, 1) := by decide +kernel
theorem dX7_init_5 : decode cX7_init 5 = .ok (.bipush 6, 2) := by decide +kernel
theorem dX7_init_7 : decode cX7_init 7 = .ok (.newarray .int, 2) := by decide +kernel
theorem dX7_init_9 : decode cX7_init 9 = .ok (.putfield 9, 3) := by decide +kernel
theorem dX7_init_12 : decode cX7_init 12 = .ok (.aload_n 0, 1) := by decide +kernel
theorem dX7_init_13 : decode cX7_init 13 = .ok (.bipush 6, 2) := by decide +kernel
theorem dX7_init_15 : decode cX7_init 15 = .ok (.newarray .int, 2) := by decide +kernel
theorem dX7_init_17 : decode cX7_init 17 = .ok (.putfield 15, 3) := by decide +kernel
theorem dX7_init_20 : decode cX7_init 20 = .ok (.aload_n 0, 1) := by decide +kernel
theorem dX7_init_21 : decode cX7_init 21 = .ok (.bipush 6, 2) := by decide +kernel
theorem dX7_init_23 : decode cX7_init 23 = .ok (.newarray .int, 2) := by decide +kernel
theorem dX7_init_25 : decode cX7_init 25 = .ok (.putfield 18, 3) := by decide +kernel
theorem dX7_init_28 : decode cX7_init 28 = .ok (.aload_n 0, 1) := by decide +kernel
theorem dX7_init_29 : decode cX7_init 29 = .ok (.bipush 6, 2) := by decide +kernel
theorem dX7_init_31 : decode cX7_init 31 = .ok (.bipush 60, 2) := by decide +kernel
theorem dX7_init_33 : decode cX7_init 33 = .ok (.multianewarray 21 2, 4) := by decide +kernel
theorem dX7_init_37 : decode cX7_init 37 = .ok (.putfield 23, 3) := by decide +kernel
theorem dX7_init_40 : decode cX7_init 40 = .ok (.aload_n 0, 1) := by decide +kernel
theorem dX7_init_41 : decode cX7_init 41 = .ok (.getfield 9, 3) := by decide +kernel
theorem dX7_init_44 : decode cX7_init 44 = .ok (.iconst (-1), 1) := by decide +kernel
theorem dX7_init_45 : decode cX7_init 45 = .ok (.invokestatic 26, 3) := by decide +kernel
theorem dX7_init_48 : decode cX7_init 48 = .ok (.aload_n 0, 1) := by decide +kernel
theorem dX7_init_49 : decode cX7_init 49 = .ok (.getfield 15, 3) := by decide +kernel
theorem dX7_init_52 : decode cX7_init 52 = .ok (.iconst (-1), 1) := by decide +kernel
theorem dX7_init_53 : decode cX7_init 53 = .ok (.invokestatic 26, 3) := by decide +kernel
theorem dX7_init_56 : decode cX7_init 56 = .ok (.return_, 1) := by decide +kernel
theorem dX8_init_0 : decode cX8_init 0 = .ok (.aload_n 0, 1) := by decide +kernel
theorem dX8_init_1 : decode cX8_init 1 = .ok (.invokespecial 3, 3) := by decide +kernel
theorem dX8_init_4 : decode cX8_init 4 = .ok (.aload_n 0, 1) := by decide +kernel
theorem dX8_init_5 : decode cX8_init 5 = .ok (.iconst 0, 1) := by decide +kernel
theorem dX8_init_6 : decode cX8_init 6 = .ok (.putfield 9, 3) := by decide +kernel
theorem dX8_init_9 : decode cX8_init 9 = .ok (.aload_n 0, 1) := by decide +kernel
theorem dX8_init_10 : decode cX8_init 10 = .ok (.iconst 0, 1) := by decide +kernel
theorem dX8_init_11 : decode cX8_init 11 = .ok (.putfield 15, 3) := by decide +kernel
theorem dX8_init_14 : decode cX8_init 14 = .ok (.aload_n 0, 1) := by decide +kernel
theorem dX8_init_15 : decode cX8_init 15 = .ok (.iconst 1, 1) := by decide +kernel
theorem dX8_init_16 : decode cX8_init 16 = .ok (.putfield 18, 3) := by decide +kernel
theorem dX8_init_19 : decode cX8_init 19 = .ok (.aload_n 0, 1) := by decide +kernel
theorem dX8_init_20 : decode cX8_init 20 = .ok (.iconst 1, 1) := by decide +kernel
theorem dX8_init_21 : decode cX8_init 21 = .ok (.putfield 21, 3) := by decide +kernel
theorem dX8_init_24 : decode cX8_init 24 = .ok (.aload_n 0, 1) := by decide +kernel
theorem dX8_init_25 : decode cX8_init 25 = .ok (.iconst 0, 1) := by decide +kernel
theorem dX8_init_26 : decode cX8_init 26 = .ok (.putfield 24, 3) := by decide +kernel
theorem dX8_init_29 : decode cX8_init 29 = .ok (.aload_n 0, 1) := by decide +kernel
theorem dX8_init_30 : decode cX8_init 30 = .ok (.iconst 0, 1) := by decide +kernel
theorem dX8_init_31 : decode cX8_init 31 = .ok (.putfield 27, 3) := by decide +kernel
theorem dX8_init_34 : decode cX8_init 34 = .ok (.aload_n 0, 1) := by decide +kernel
theorem dX8_init_35 : decode cX8_init 35 = .ok (.iconst 0, 1) := by decide +kernel
theorem dX8_init_36 : decode cX8_init 36 = .ok (.putfield 30, 3) := by decide +kernel
theorem dX8_init_39 : decode cX8_init 39 = .ok (.aload_n 0, 1) := by decide +kernel
theorem dX8_init_40 : decode cX8_init 40 = .ok (.iconst 0, 1) := by decide +kernel
theorem dX8_init_41 : decode cX8_init 41 = .ok (.putfield 33, 3) := by decide +kernel
theorem dX8_init_44 : decode cX8_init 44 = .ok (.aload_n 0, 1) := by decide +kernel
theorem dX8_init_45 : decode cX8_init 45 = .ok (.bipush 12, 2) := by decide +kernel
theorem dX8_init_47 : decode cX8_init 47 = .ok (.newarray .int, 2) := by decide +kernel
theorem dX8_init_49 : decode cX8_init 49 = .ok (.putfield 37, 3) := by decide +kernel
theorem dX8_init_52 : decode cX8_init 52 = .ok (.aload_n 0, 1) := by decide +kernel
theorem dX8_init_53 : decode cX8_init 53 = .ok (.bipush 12, 2) := by decide +kernel
theorem dX8_init_55 : decode cX8_init 55 = .ok (.newarray .int, 2) := by decide +kernel
theorem dX8_init_57 : decode cX8_init 57 = .ok (.putfield 41, 3) := by decide +kernel
theorem dX8_init_60 : decode cX8_init 60 = .ok (.aload_n 0, 1) := by decide +kernel
theorem dX8_init_61 : decode cX8_init 61 = .ok (.bipush 80, 2) := by decide +kernel
theorem dX8_init_63 : decode cX8_init 63 = .ok (.newarray .byte, 2) := by decide +kernel
theorem dX8_init_65 : decode cX8_init 65 = .ok (.putfield 44, 3) := by decide +kernel
theorem dX8_init_68 : decode cX8_init 68 = .ok (.aload_n 0, 1) := by decide +kernel
theorem dX8_init_69 : decode cX8_init 69 = .ok (.sipush 1000, 3) := by decide +kernel
theorem dX8_init_72 : decode cX8_init 72 = .ok (.newarray .byte, 2) := by decide +kernel
theorem dX8_init_74 : decode cX8_init 74 = .ok (.putfield 48, 3) := by decide +kernel
theorem dX8_init_77 : decode cX8_init 77 = .ok (.aload_n 0, 1) := by decide +kernel
theorem dX8_init_78 : decode cX8_init 78 = .ok (.sipush 1000, 3) := by decide +kernel
theorem dX8_init_81 : decode cX8_init 81 = .ok (.newarray .short, 2) := by decide +kernel
theorem dX8_init_83 : decode cX8_init 83 = .ok (.putfield 51, 3) := by decide +kernel
theorem dX8_init_86 : decode cX8_init 86 = .ok (.return_, 1) := by decide +kernel
theorem dX9_init_0 : decode cX9_init 0 = .ok (.aload_n 0, 1) := by decide +kernel
theorem dX9_init_1 : decode cX9_init 1 = .ok (.invokespecial 3, 3) := by decide +kernel
theorem dX9_init_4 : decode cX9_init 4 = .ok (.aload_n 0, 1) := by decide +kernel
theorem dX9_init_5 : decode cX9_init 5 = .ok (.bipush 80, 2) := by decide +kernel
theorem dX9_init_7 : decode cX9_init 7 = .ok (.newarray .byte, 2) := by decide +kernel
theorem dX9_init_9 : decode cX9_init 9 = .ok (.putfield 9, 3) := by decide +kernel
theorem dX9_init_12 : decode cX9_init 12 = .ok (.aload_n 0, 1) := by decide +kernel
theorem dX9_init_13 : decode cX9_init 13 = .ok (.iconst 0, 1) := by decide +kernel
theorem dX9_init_14 : decode cX9_init 14 = .ok (.putfield 15, 3) := by decide +kernel
theorem dX9_init_17 : decode cX9_init 17 = .ok (.return_, 1) := by decide +kernel
theorem dX10_init_0 : decode cX10_init 0 = .ok (.aload_n 0, 1) := by decide +kernel
theorem dX10_init_1 : decode cX10_init 1 = .ok (.invokespecial 3, 3) := by decide +kernel
theorem dX10_init_4 : decode cX10_init 4 = .ok (.aload_n 0, 1) := by decide +kernel
theorem dX10_init_5 : decode cX10_init 5 = .ok (.bipush 6, 2) := by decide +kernel
theorem dX10_init_7 : decode cX10_init 7 = .ok (.newarray .int, 2) := by decide +kernel
theorem dX10_init_9 : decode cX10_init 9 = .ok (.putfield 9, 3) := by decide +kernel
theorem dX10_init_12 : decode cX10_init 12 = .ok (.aload_n 0, 1) := by decide +kernel
theorem dX10_init_13 : decode cX10_init 13 = .ok (.iconst 0, 1) := by decide +kernel
theorem dX10_init_14 : decode cX10_init 14 = .ok (.putfield 15, 3) := by decide +kernel
theorem dX10_init_17 : decode cX10_init 17 = .ok (.aload_n 0, 1) := by decide +kernel
theorem dX10_init_18 : decode cX10_init 18 = .ok (.iconst (-1), 1) := by decide +kernel
theorem dX10_init_19 : decode cX10_init 19 = .ok (.putfield 19, 3) := by decide +kernel
theorem dX10_init_22 : decode cX10_init 22 = .ok (.aload_n 0, 1) := by decide +kernel
theorem dX10_init_23 : decode cX10_init 23 = .ok (.bipush 12, 2) := by decide +kernel
theorem dX10_init_25 : decode cX10_init 25 = .ok (.newarray .int, 2) := by decide +kernel
theorem dX10_init_27 : decode cX10_init 27 = .ok (.putfield 22, 3) := by decide +kernel
theorem dX10_init_30 : decode cX10_init 30 = .ok (.aload_n 0, 1) := by decide +kernel
theorem dX10_init_31 : decode cX10_init 31 = .ok (.aload_n 1, 1) := by decide +kernel
theorem dX10_init_32 : decode cX10_init 32 = .ok (.putfield 25, 3) := by decide +kernel
theorem dX10_init_35 : decode cX10_init 35 = .ok (.return_, 1) := by decide +kernel
set_option maxRecDepth 20000 in
theorem ggX11_init_X9_init : GoodIn wsX11_init wsX9_init := goodIn_r _ [51, 52, 2, 3, 53, 54, 55, 179, 180] (by decide +kernel) (by decide +kernel)
set_option maxRecDepth 20000 in
theorem gX11_init_X9_init_n9 : GoodIn wsX11_init (wsX9_init) := ggX11_init_X9_init
set_option maxRecDepth 20000 in
theorem ggX11_init_X4_init : GoodIn wsX11_init wsX4_init := goodIn_r _ [57, 58, 2, 3, 59, 53, 60, 61, 62, 63, 64, 194, 195, 196, 197] (by decide +kernel) (by decide +kernel)
set_option maxRecDepth 20000 in
theorem gX11_init_X4_init_n18 : GoodIn wsX11_init (wsX4_init) := ggX11_init_X4_init
set_option maxRecDepth 20000 in
theorem ggX11_init_X2_init : GoodIn wsX11_init wsX2_init := goodIn_r _ [66, 67, 2, 3, 61, 68, 69, 70, 71, 72, 73, 74, 198, 199, 200, 201, 202, 203] (by decide +kernel) (by decide +kernel)
set_option maxRecDepth 20000 in
theorem gX11_init_X2_init_n25 : GoodIn wsX11_init (wsX2_init) := ggX11_init_X2_init
set_option maxRecDepth 20000 in
theorem ggX11_init_X3_init : GoodIn wsX11_init wsX3_init := goodIn_r _ [76, 77, 2, 3, 53, 78, 79, 80, 81, 82, 83, 84, 85, 204, 205, 206, 207, 208, 209, 210, 211] (by decide +kernel) (by decide +kernel)
set_option maxRecDepth 20000 in
theorem gX11_init_X3_init_n32 : GoodIn wsX11_init (wsX3_init) := ggX11_init_X3_init
set_option maxRecDepth 20000 in
theorem ggX11_init_X1_init : GoodIn wsX11_init wsX1_init := goodIn_r _ [88, 89, 2, 3, 61, 90, 91, 92, 93, 94, 95, 96, 97, 98, 212, 213, 214, 215, 216, 217, 218, 219, 220] (by decide +kernel) (by decide +kernel)
set_option maxRecDepth 20000 in
theorem gX11_init_X1_init : GoodIn wsX11_init (wsX1_init) := ggX11_init_X1_init
set_option maxRecDepth 20000 in
theorem ggX11_init_X8_init : GoodIn wsX11_init wsX8_init := goodIn_r _ [100, 101, 2, 3, 102, 103, 104, 105, 106, 107, 108, 109, 61, 110, 111, 53, 112, 113, 114, 115, 221, 222, 223, 224, 225, 226, 227, 228, 229, 230, 231, 232, 233] (by decide +kernel) (by decide +kernel)
set_option maxRecDepth 20000 in
theorem gX11_init_X8_init_n56 : GoodIn wsX11_init (wsX8_init) := ggX11_init_X8_init
set_option maxRecDepth 20000 in
theorem ggX11_init_X6_init : GoodIn wsX11_init wsX6_init := goodIn_r _ [118, 119, 2, 3, 120, 61, 121, 122, 123, 124, 125, 126, 127, 128, 129, 130, 131, 132, 234, 235, 236, 237, 238, 239, 240, 241, 242, 243, 244, 245] (by decide +kernel) (by decide +kernel)
set_option maxRecDepth 20000 in
theorem gX11_init_X6_init : GoodIn wsX11_init (wsX6_init) := ggX11_init_X6_init
set_option maxRecDepth 20000 in
theorem ggX11_init_X5_init : GoodIn wsX11_init wsX5_init := goodIn_r _ [135, 136, 2, 3, 61, 137, 138, 139, 140, 141, 142, 143, 144, 145, 146, 147, 246, 247, 248, 249, 250, 251, 252, 253, 254, 255] (by decide +kernel) (by decide +kernel)
set_option maxRecDepth 20000 in
theorem gX11_init_X5_init : GoodIn wsX11_init (wsX5_init) := ggX11_init_X5_init
set_option maxRecDepth 20000 in
theorem ggX11_init_X10_init : GoodIn wsX11_init wsX10_init := goodIn_r _ [150, 151, 2, 3, 61, 152, 153, 154, 155, 156, 256, 257, 258, 259, 260] (by decide +kernel) (by decide +kernel)
set_option maxRecDepth 20000 in
theorem gX11_init_X10_init : GoodIn wsX11_init (wsX10_init) := ggX11_init_X10_init
set_option maxRecDepth 20000 in
theorem ggX11_init_X0_init : GoodIn wsX11_init wsX0_init := goodIn_r _ [158, 159, 2, 3, 61, 160, 161, 162, 163, 164, 261, 262, 263, 264, 265] (by decide +kernel) (by decide +kernel)
set_option maxRecDepth 20000 in
theorem gX11_init_X0_init_n90 : GoodIn wsX11_init (wsX0_init) := ggX11_init_X0_init
set_option maxRecDepth 20000 in
theorem ggX11_init_X7_init : GoodIn wsX11_init wsX7_init := goodIn_r _ [167, 168, 2, 3, 61, 169, 170, 171, 172, 173, 174, 175, 176, 177, 178, 266, 267, 268, 269] (by decide +kernel) (by decide +kernel)
set_option maxRecDepth 20000 in
theorem gX11_init_X7_init : GoodIn wsX11_init (wsX7_init) := ggX11_init_X7_init
theorem dX11_init_0 : decode cX11_init 0 = .ok (.aload_n 0, 1) := by decide +kernel
theorem dX11_init_1 : decode cX11_init 1 = .ok (.invokespecial 1, 3) := by decide +kernel
theorem dX11_init_4 : decode cX11_init 4 = .ok (.aload_n 0, 1) := by decide +kernel
theorem dX11_init_5 : decode cX11_init 5 = .ok (.new 7, 3) := by decide +kernel
theorem dX11_init_8 : decode cX11_init 8 = .ok (.dup, 1) := by decide +kernel
theorem dX11_init_9 : decode cX11_init 9 = .ok (.invokespecial 9, 3) := by decide +kernel
theorem dX11_init_12 : decode cX11_init 12 = .ok (.putfield 10, 3) := by decide +kernel
theorem dX11_init_15 : decode cX11_init 15 = .ok (.aload_n 0, 1) := by decide +kernel
theorem dX11_init_16 : decode cX11_init 16 = .ok (.new 16, 3) := by decide +kernel
theorem dX11_init_19 : decode cX11_init 19 = .ok (.dup, 1) := by decide +kernel
theorem dX11_init_20 : decode cX11_init 20 = .ok (.invokespecial 18, 3) := by decide +kernel
theorem dX11_init_23 : decode cX11_init 23 = .ok (.putfield 19, 3) := by decide +kernel
theorem dX11_init_26 : decode cX11_init 26 = .ok (.aload_n 0, 1) := by decide +kernel
theorem dX11_init_27 : decode cX11_init 27 = .ok (.new 23, 3) := by decide +kernel
theorem dX11_init_30 : decode cX11_init 30 = .ok (.dup, 1) := by decide +kernel
theorem dX11_init_31 : decode cX11_init 31 = .ok (.invokespecial 25, 3) := by decide +kernel
theorem dX11_init_34 : decode cX11_init 34 = .ok (.putfield 26, 3) := by decide +kernel
theorem dX11_init_37 : decode cX11_init 37 = .ok (.aload_n 0, 1) := by decide +kernel
theorem dX11_init_38 : decode cX11_init 38 = .ok (.new 30, 3) := by decide +kernel
theorem dX11_init_41 : decode cX11_init 41 = .ok (.dup, 1) := by decide +kernel
theorem dX11_init_42 : decode cX11_init 42 = .ok (.invokespecial 32, 3) := by decide +kernel
theorem dX11_init_45 : decode cX11_init 45 = .ok (.putfield 33, 3) := by decide +kernel
theorem dX11_init_48 : decode cX11_init 48 = .ok (.aload_n 0, 1) := by decide +kernel
theorem dX11_init_49 : decode cX11_init 49 = .ok (.new 37, 3) := by decide +kernel
theorem dX11_init_52 : decode cX11_init 52 = .ok (.dup, 1) := by decide +kernel
theorem dX11_init_53 : decode cX11_init 53 = .ok (.aload_n 0, 1) := by decide +kernel
theorem dX11_init_54 : decode cX11_init 54 = .ok (.getfield 26, 3) := by decide +kernel
theorem dX11_init_57 : decode cX11_init 57 = .ok (.invokespecial 39, 3) := by decide +kernel
theorem dX11_init_60 : decode cX11_init 60 = .ok (.putfield 42, 3) := by decide +kernel
theorem dX11_init_63 : decode cX11_init 63 = .ok (.aload_n 0, 1) := by decide +kernel
theorem dX11_init_64 : decode cX11_init 64 = .ok (.bipush 10, 2) := by decide +kernel
theorem dX11_init_66 : decode cX11_init 66 = .ok (.anewarray 46, 3) := by decide +kernel
theorem dX11_init_69 : decode cX11_init 69 = .ok (.putfield 48, 3) := by decide +kernel
theorem dX11_init_72 : decode cX11_init 72 = .ok (.aload_n 0, 1) := by decide +kernel
theorem dX11_init_73 : decode cX11_init 73 = .ok (.iconst 0, 1) := by decide +kernel
theorem dX11_init_74 : decode cX11_init 74 = .ok (.putfield 52, 3) := by decide +kernel
theorem dX11_init_77 : decode cX11_init 77 = .ok (.aload_n 0, 1) := by decide +kernel
theorem dX11_init_78 : decode cX11_init 78 = .ok (.new 46, 3) := by decide +kernel
theorem dX11_init_81 : decode cX11_init 81 = .ok (.dup, 1) := by decide +kernel
theorem dX11_init_82 : decode cX11_init 82 = .ok (.invokespecial 56, 3) := by decide +kernel
theorem dX11_init_85 : decode cX11_init 85 = .ok (.putfield 57, 3) := by decide +kernel
theorem dX11_init_88 : decode cX11_init 88 = .ok (.aload_n 0, 1) := by decide +kernel
theorem dX11_init_89 : decode cX11_init 89 = .ok (.new 61, 3) := by decide +kernel
theorem dX11_init_92 : decode cX11_init 92 = .ok (.dup, 1) := by decide +kernel
theorem dX11_init_93 : decode cX11_init 93 = .ok (.aload_n 0, 1) := by decide +kernel
theorem dX11_init_94 : decode cX11_init 94 = .ok (.getfield 26, 3) := by decide +kernel
theorem dX11_init_97 : decode cX11_init 97 = .ok (.aload_n 0, 1) := by decide +kernel
theorem dX11_init_98 : decode cX11_init 98 = .ok (.getfield 19, 3) := by decide +kernel
theorem dX11_init_101 : decode cX11_init 101 = .ok (.aload_n 0, 1) := by decide +kernel
theorem dX11_init_102 : decode cX11_init 102 = .ok (.getfield 42, 3) := by decide +kernel
theorem dX11_init_105 : decode cX11_init 105 = .ok (.invokespecial 63, 3) := by decide +kernel
theorem dX11_init_108 : decode cX11_init 108 = .ok (.putfield 66, 3) := by decide +kernel
theorem dX11_init_111 : decode cX11_init 111 = .ok (.aload_n 0, 1) := by decide +kernel
theorem dX11_init_112 : decode cX11_init 112 = .ok (.new 70, 3) := by decide +kernel
theorem dX11_init_115 : decode cX11_init 115 = .ok (.dup, 1) := by decide +kernel
theorem dX11_init_116 : decode cX11_init 116 = .ok (.aload_n 0, 1) := by decide +kernel
theorem dX11_init_117 : decode cX11_init 117 = .ok (.getfield 26, 3) := by decide +kernel
theorem dX11_init_120 : decode cX11_init 120 = .ok (.aload_n 0, 1) := by decide +kernel
theorem dX11_init_121 : decode cX11_init 121 = .ok (.getfield 19, 3) := by decide +kernel
theorem dX11_init_124 : decode cX11_init 124 = .ok (.aload_n 0, 1) := by decide +kernel
theorem dX11_init_125 : decode cX11_init 125 = .ok (.getfield 42, 3) := by decide +kernel
theorem dX11_init_128 : decode cX11_init 128 = .ok (.aload_n 0, 1) := by decide +kernel
theorem dX11_init_129 : decode cX11_init 129 = .ok (.getfield 33, 3) := by decide +kernel
theorem dX11_init_132 : decode cX11_init 132 = .ok (.invokespecial 72, 3) := by decide +kernel
theorem dX11_init_135 : decode cX11_init 135 = .ok (.putfield 75, 3) := by decide +kernel
theorem dX11_init_138 : decode cX11_init 138 = .ok (.aload_n 0, 1) := by decide +kernel
theorem dX11_init_139 : decode cX11_init 139 = .ok (.new 79, 3) := by decide +kernel
theorem dX11_init_142 : decode cX11_init 142 = .ok (.dup, 1) := by decide +kernel
theorem dX11_init_143 : decode cX11_init 143 = .ok (.aload_n 0, 1) := by decide +kernel
theorem dX11_init_144 : decode cX11_init 144 = .ok (.getfield 19, 3) := by decide +kernel
theorem dX11_init_147 : decode cX11_init 147 = .ok (.invokespecial 81, 3) := by decide +kernel
theorem dX11_init_150 : decode cX11_init 150 = .ok (.putfield 84, 3) := by decide +kernel
theorem dX11_init_153 : decode cX11_init 153 = .ok (.aload_n 0, 1) := by decide +kernel
theorem dX11_init_154 : decode cX11_init 154 = .ok (.new 88, 3) := by decide +kernel
theorem dX11_init_157 : decode cX11_init 157 = .ok (.dup, 1) := by decide +kernel
theorem dX11_init_158 : decode cX11_init 158 = .ok (.invokespecial 90, 3) := by decide +kernel
theorem dX11_init_161 : decode cX11_init 161 = .ok (.putfield 91, 3) := by decide +kernel
theorem dX11_init_164 : decode cX11_init 164 = .ok (.aload_n 0, 1) := by decide +kernel
theorem dX11_init_165 : decode cX11_init 165 = .ok (.new 95, 3) := by decide +kernel
theorem dX11_init_168 : decode cX11_init 168 = .ok (.dup, 1) := by decide +kernel
theorem dX11_init_169 : decode cX11_init 169 = .ok (.invokespecial 97, 3) := by decide +kernel
theorem dX11_init_172 : decode cX11_init 172 = .ok (.putfield 98, 3) := by decide +kernel
theorem dX11_init_175 : decode cX11_init 175 = .ok (.return_, 1) := by decide +kernel
theorem dJ7_fill_d0a16_0 : decode cJ7_fill_d0a16 0 = .ok (.iconst 0, 1) := by decide +kernel
theorem dJ7_fill_d0a16_1 : decode cJ7_fill_d0a16 1 = .ok (.istore_n 3, 1) := by decide +kernel
theorem dJ7_fill_d0a16_2 : decode cJ7_fill_d0a16 2 = .ok (.aload_n 0, 1) := by decide +kernel
theorem dJ7_fill_d0a16_3 : decode cJ7_fill_d0a16 3 = .ok (.arraylength, 1) := by decide +kernel
theorem dJ7_fill_d0a16_4 : decode cJ7_fill_d0a16 4 = .ok (.istore 4, 2) := by decide +kernel
theorem dJ7_fill_d0a16_6 : decode cJ7_fill_d0a16 6 = .ok (.iload_n 3, 1) := by decide +kernel
theorem dJ7_fill_d0a16_7 : decode cJ7_fill_d0a16 7 = .ok (.iload 4, 2) := by decide +kernel
theorem dJ7_fill_d0a16_9 : decode cJ7_fill_d0a16 9 = .ok (.if_icmp .ge 13, 3) := by decide +kernel
theorem dJ7_fill_d0a16_12 : decode cJ7_fill_d0a16 12 = .ok (.aload_n 0, 1) := by decide +kernel
theorem dJ7_fill_d0a16_13 : decode cJ7_fill_d0a16 13 = .ok (.iload_n 3, 1) := by decide +kernel
theorem dJ7_fill_d0a16_14 : decode cJ7_fill_d0a16 14 = .ok (.lload_n 1, 1) := by decide +kernel
theorem dJ7_fill_d0a16_15 : decode cJ7_fill_d0a16 15 = .ok (.lastore, 1) := by decide +kernel
theorem dJ7_fill_d0a16_16 : decode cJ7_fill_d0a16 16 = .ok (.iinc 3 1, 3) := by decide +kernel
theorem dJ7_fill_d0a16_19 : decode cJ7_fill_d0a16 19 = .ok (.goto (-13), 3) := by decide +kernel
theorem dJ7_fill_d0a16_22 : decode cJ7_fill_d0a16 22 = .ok (.return_, 1) := by decide +kernel
theorem dJ7_fill_53178_0 : decode cJ7_fill_53178 0 = .ok (.iconst 0, 1) := by decide +kernel
theorem dJ7_fill_53178_1 : decode cJ7_fill_53178 1 = .ok (.istore_n 2, 1) := by decide +kernel
theorem dJ7_fill_53178_2 : decode cJ7_fill_53178 2 = .ok (.aload_n 0, 1) := by decide +kernel
theorem dJ7_fill_53178_3 : decode cJ7_fill_53178 3 = .ok (.arraylength, 1) := by decide +kernel
theorem dJ7_fill_53178_4 : decode cJ7_fill_53178 4 = .ok (.istore_n 3, 1) := by decide +kernel
theorem dJ7_fill_53178_5 : decode cJ7_fill_53178 5 = .ok (.iload_n 2, 1) := by decide +kernel
theorem dJ7_fill_53178_6 : decode cJ7_fill_53178 6 = .ok (.iload_n 3, 1) := by decide +kernel
theorem dJ7_fill_53178_7 : decode cJ7_fill_53178 7 = .ok (.if_icmp .ge 13, 3) := by decide +kernel
theorem dJ7_fill_53178_10 : decode cJ7_fill_53178 10 = .ok (.aload_n 0, 1) := by decide +kernel
theorem dJ7_fill_53178_11 : decode cJ7_fill_53178 11 = .ok (.iload_n 2, 1) := by decide +kernel
theorem dJ7_fill_53178_12 : decode cJ7_fill_53178 12 = .ok (.iload_n 1, 1) := by decide +kernel
theorem dJ7_fill_53178_13 : decode cJ7_fill_53178 13 = .ok (.iastore, 1) := by decide +kernel
theorem dJ7_fill_53178_14 : decode cJ7_fill_53178 14 = .ok (.iinc 2 1, 3) := by decide +kernel
theorem dJ7_fill_53178_17 : decode cJ7_fill_53178 17 = .ok (.goto (-12), 3) := by decide +kernel
theorem dJ7_fill_53178_20 : decode cJ7_fill_53178 20 = .ok (.return_, 1) := by decide +kernel
abbrev vwCl : List vw_C := [(RX0, TX0, 5), (RX1, TX1, 9), (RX2, TX2, 6), (RX3, TX3, 8), (RX4, TX4, 4), (RX5, TX5, 10), (RX6, TX6, 12), (RX7, TX7, 4), (RX8, TX8, 13), (RX9, TX9, 2), (RX10, TX10, 5), (RX11, TX11, 13), (RX12, TX12, 59)]
end
section
/-- the array classes by their places: 0 int, 1 byte, 2 boolean, 3 short, 4 long, 5 byte[][], 6 int[][], 7 long[][], 8 Table[] -/
def tyl (cy : Nat → ClassId) : List (ClassId × FieldType) := [(cy 0, .int), (cy 1, .byte), (cy 2, .boolean), (cy 3, .short), (cy 4, .long), (cy 5, .array .byte), (cy 6, .array .int), (cy 7, .array .long), (cy 8, .object "SeatsRound$Table")]
def nwl : List Cond := [.methodLinkNest RX11 9 yX9_init RX11, .methodLinkNest RX11 18 yX4_init RX11, .methodLinkNest RX11 25 yX2_init RX11, .methodLinkNest RX11 32 yX3_init RX11, .methodLinkNest RX11 56 yX8_init RX11, .methodLinkNest RX11 90 yX0_init RX11, .methodLinkNest RX8 87 yX11_strewn RX11, .methodLinkNest RX8 96 yX11_placeBehind RX11, .methodLinkNest RX1 78 yX11_placeBehind RX11]
/-- what the tables say of private members of nest mates and of arrays over classes -/
def NW (U : State) : Prop := (∀ w ∈ nwl, va_Nw w U) ∧ va_AO "SeatsRound$Table" U ∧ va_AOA .byte U ∧ va_AOA .int U ∧ va_AOA .long U
theorem nwl_all (P : Cond → Prop) (h : ∀ a i y b, Cond.methodLinkNest a i y b ∈ nwl → P (.methodLinkNest a i y b)) : ∀ w ∈ nwl, P w := by
  intro w hw
  have hw2 := hw
  simp only [nwl, List.mem_cons, List.not_mem_nil, or_false] at hw2
  rcases hw2 with rfl | rfl | rfl | rfl | rfl | rfl | rfl | rfl | rfl <;> exact h _ _ _ _ hw
theorem NW.warm {s U : State} (hW : s.WarmedH U.vm) (h : NW s) : NW U :=
  ⟨nwl_all _ (fun _ _ _ _ hm => va_Nw.warmM hW (h.1 _ hm)), h.2.1.moved hW.alike, h.2.2.1.moved hW.alike, h.2.2.2.1.moved hW.alike, h.2.2.2.2.moved hW.alike⟩
theorem NW.same {u U : State} (hv : u.vm = U.vm) (h : NW u) : NW U := by
  have ha : u.vm.Alike U.vm := by rw [hv]; exact Vm.Alike.refl U.vm
  exact ⟨nwl_all _ (fun _ _ _ _ hm => va_Nw.same rfl hv (h.1 _ hm)), h.2.1.moved ha, h.2.2.1.moved ha, h.2.2.2.1.moved ha, h.2.2.2.2.moved ha⟩
def wPre (D : va_G) (cy : Nat → ClassId) (ws : va_W) (sz : Nat) (U : State) : Prop := U.heap.size = sz ∧ va_P D vwCl ws U.heap ∧ va_K D vwCl (tyl cy) U ∧ va_D (fun _ => True) ws ∧ NW U
def wAt (D : va_G) (A : Nat → Prop) (ws : va_W) (t : State) : Prop := va_P D vwCl ws t.heap ∧ va_D A ws
theorem wp_blind {av : List Value} {D : va_G} {cy : Nat → ClassId} {ws : va_W} {sz : Nat} : FrameBlind (va_Pc av (wPre D cy ws sz)) := fun a U g mk q => by
  obtain ⟨q0, q1, qP, qK, qD, qN⟩ := q
  exact ⟨q0, q1, qP, va_K.moved (u := U) (U := U.calling g mk a) (Vm.Alike.refl U.vm) qK, qD, NW.same (u := U) (U := U.calling g mk a) rfl qN⟩
theorem wp_V {s : State} {H : Heap} {C : String} {b : Addr} {As : List Value} {D : va_G} {cy : Nat → ClassId} {ws : va_W} {A : Nat → Prop} (hK : va_K D vwCl (tyl cy) s) (hN : NW s) (hP : va_P D vwCl ws H) (hD : va_D A ws) (hr : ∃ cellB : Cell, H[b]? = some cellB ∧ cellB.vm.isStatics = false ∧ s.vm.findClass C = some cellB.cls) : PreV s H C b (va_Pc (.ref b :: As) (wPre D cy ws H.size)) As :=
  ⟨wp_blind, hr, fun U hU hW => ⟨rfl, by rw [hU], by rw [hU]; exact hP, va_K.moved hW.alike hK, hD.weaken (fun _ _ _ _ => trivial), hN.warm hW⟩⟩
theorem wp_S {s : State} {H : Heap} {As : List Value} {D : va_G} {cy : Nat → ClassId} {ws : va_W} {A : Nat → Prop} (hK : va_K D vwCl (tyl cy) s) (hN : NW s) (hP : va_P D vwCl ws H) (hD : va_D A ws) : PreS s H (va_Pc As (wPre D cy ws H.size)) As :=
  ⟨wp_blind, fun U hU hW => ⟨rfl, by rw [hU], by rw [hU]; exact hP, va_K.moved hW.alike hK, hD.weaken (fun _ _ _ _ => trivial), hN.warm hW⟩⟩
theorem va_P.take {D : va_G} {cl : List vw_C} {ws : va_W} {H : Heap} (k : Nat) (h : va_P D cl ws H) : va_P D cl (ws.take k) H := fun i q hq => by
  rw [List.getElem?_take] at hq
  split at hq
  · exact h i q hq
  · cases hq
theorem va_D.take {A : Nat → Prop} {ws : va_W} (k : Nat) (h : va_D A ws) : va_D A (ws.take k) := by
  have hh : ∀ (i : Nat) (q : Nat × va_E), (ws.take k)[i]? = some q → ws[i]? = some q := fun i q hq => by
    rw [List.getElem?_take] at hq
    split at hq
    · exact hq
    · cases hq
  exact ⟨fun i j p q hi hj e => h.1 i j p q (hh i p hi) (hh j q hj) e, fun i q hi => h.2 i q (hh i q hi)⟩
theorem va_RA_one {U : State} {a b : ClassId} {ty : FieldType} (h1 : va_RA U a ty) (h2 : va_RA U b ty) : a = b := by
  cases ty with
  | object C =>
    obtain ⟨_, _, _, _, _, e1⟩ := h1
    obtain ⟨_, _, _, _, _, e2⟩ := h2
    exact Option.some.inj (e1.symm.trans e2)
  | _ => exact Option.some.inj (Eq.trans (Eq.symm h1) h2)
section VZ
variable {p : Program} {l : Launch} {e : Env} {R : Room} {s : State} {m : MethodId} {args : Array Value} {below : List Frame} {meth : Method} {c : Code} {H : Heap} {locs : List Loc} {cells slots : Nat} {Q : State → Prop}
variable {cc : ByteArray} {pc : Nat} {ls : Array Slot} {rest : List Value} {D : va_G} {cl : List vw_C} {A : Nat → Prop} {a : Nat} {tys : List (ClassId × FieldType)} {ws : va_W} {H0 : Heap}
theorem vz_callSi {post : Int32 → Prop} {a : Array Value} {st0 : List Value} (hr : va_Run p l e R s m args below meth c H locs cells slots 0 0 (F0 m pc ls st0) rest (vp_Si post a) (fun _ => False))
    (kk : ∀ r : Int32, post r → W p l e R s m args below meth c H locs cells slots Q (F0 m (pc + 3) ls (.int r :: rest))) : W p l e R s m args below meth c H locs cells slots Q (F0 m pc ls st0) := by
  intro T hT X
  obtain ⟨v, st₀, t, T', L, h0, X', hL, e1, e2, ⟨r, hv, hp, hh⟩, st⟩ := hr T hT X
  cases hv
  obtain ⟨t2, a1, b1⟩ := kk r hp T' (by rw [e1, hh, h0]) (Stand.forget X' (fun q h => (hL q h).elim))
  exact ⟨t2, st t2 a1, b1⟩
theorem vz_callSq {post : Option Nat → Prop} {a : Array Value} {st0 : List Value} (hr : va_Run p l e R s m args below meth c H locs cells slots 0 0 (F0 m pc ls st0) rest (va_Sq post a) (fun _ => False))
    (kk : ∀ r : Option Nat, post r → W p l e R s m args below meth c H locs cells slots Q (F0 m (pc + 3) ls (va_rf r :: rest))) : W p l e R s m args below meth c H locs cells slots Q (F0 m pc ls st0) := by
  intro T hT X
  obtain ⟨v, st₀, t, T', L, h0, X', hL, e1, e2, ⟨r, hv, hp, hh⟩, st⟩ := hr T hT X
  cases hv
  obtain ⟨t2, a1, b1⟩ := kk r hp T' (by rw [e1, hh, h0]) (Stand.forget X' (fun q h => (hL q h).elim))
  exact ⟨t2, st t2 a1, b1⟩
theorem vz_last {t0 : Nat} {cA cB : ClassId} {ty : FieldType} (hK : va_K D cl tys s) (ht : tys[t0]? = some (cA, ty)) (hK1 : va_K D cl (tys ++ [(cB, ty)]) s) : cB = cA :=
  va_RA_one (hK1.2 tys.length (cB, ty) (by simp)).2 (hK.2 t0 _ ht).2
theorem vz_newa (hexec : p.tables.exec = Jvm.exec) (hb : c.code = cc) {atype : ArrayType} {t0 : Nat} {cA : ClassId} (harr : (Cond.arrayClass (newarray.typeOf atype)).before args s = true) {ty : FieldType} (hty : newarray.typeOf atype = ty) (ht : tys[t0]? = some (cA, ty)) (hK : va_K D cl tys s) (hP : va_P D cl ws H) (hD : va_D A ws) (hS : va_S A H0 H locs) (hA : ∀ q, H0.size ≤ q → A q)
    {n : Int32} {N' : Nat} {a0 : vp_A} (ha : ∀ cA : ClassId, vp_cell cA a0 = arrV cA N' (fun _ => defaultValue ty)) (hn : ¬ n < 0) (hN : n.toNatClampNeg = N') (hbytes : N' * componentBytes ty ≤ 536870912) (hcells : cells + 1 ≤ R.cells) (hslots : slots + N' ≤ R.slots) (hdg : decode cc pc = .ok (.newarray atype, 2))
    (kk : ∀ (q : Nat) (H1 : Heap), va_P D cl (ws ++ [(q, .inl (cA, a0))]) H1 → va_D A (ws ++ [(q, .inl (cA, a0))]) → va_S A H0 H1 locs →
      W p l e R s m args below meth c H1 locs (cells + 1) (slots + N') Q (F0 m (pc + 2) ls (.ref q :: rest))) : W p l e R s m args below meth c H locs cells slots Q (F0 m pc ls (.int n :: rest)) := by
  refine va_newa hexec hb harr hty hK hP hD hS hA ha hn hN hbytes hcells hslots hdg (fun q cB H1 hK1 hP1 hD1 hS1 => ?_)
  have e9 := vz_last hK ht hK1
  subst e9
  exact kk q H1 hP1 hD1 hS1
theorem vz_newq (hexec : p.tables.exec = Jvm.exec) (hb : c.code = cc) {own C : String} {index t0 : Nat} {cA : ClassId} (hown : s.vm.findClass own = some m.cls) (hclink : (Cond.classLink own index C).before args s = true) (hover : va_AO C s) (ht : tys[t0]? = some (cA, .object C)) (hK : va_K D cl tys s) (hP : va_P D cl ws H) (hD : va_D A ws) (hS : va_S A H0 H locs) (hA : ∀ q, H0.size ≤ q → A q)
    {n : Int32} {N' : Nat} (hn : ¬ n < 0) (hN : n.toNatClampNeg = N') (hbytes : N' * 4 ≤ 536870912) (hcells : cells + 1 ≤ R.cells) (hslots : slots + N' ≤ R.slots) (hdg : decode cc pc = .ok (.anewarray index, 3))
    (kk : ∀ (q : Nat) (H1 : Heap), va_P D cl (ws ++ [(q, .inl (cA, N', .inr (.inr (.inr (.inr (fun _ => none))))))]) H1 → va_D A (ws ++ [(q, .inl (cA, N', .inr (.inr (.inr (.inr (fun _ => none))))))]) → va_S A H0 H1 locs →
      W p l e R s m args below meth c H1 locs (cells + 1) (slots + N') Q (F0 m (pc + 3) ls (.ref q :: rest))) : W p l e R s m args below meth c H locs cells slots Q (F0 m pc ls (.int n :: rest)) := by
  refine va_newq hexec hb hown hclink hover hK hP hD hS hA hn hN hbytes hcells hslots hdg (fun q cB H1 hK1 hP1 hD1 hS1 => ?_)
  have e9 := vz_last hK ht hK1
  subst e9
  exact kk q H1 hP1 hD1 hS1
theorem vz_mna (hexec : p.tables.exec = Jvm.exec) (hb : c.code = cc) {own : String} {index t0 t1 : Nat} {ty : FieldType} {cA cy : ClassId} (hown : s.vm.findClass own = some m.cls) (hclink : (Cond.classLink own index ("[" ++ (FieldType.array ty).toString)).before args s = true) (hover : va_AOA ty s) (harr : (Cond.arrayClass ty).before args s = true) (ht : tys[t0]? = some (cA, .array ty)) (hcy : s.vm.findClass (FieldType.array ty).toString = some cy)
    (hK : va_K D cl tys s) (hP : va_P D cl ws H) (hD : va_D A ws) (hS : va_S A H0 H locs) (hA : ∀ q, H0.size ≤ q → A q) {n k : Int32} {N' K' : Nat} {z : vp_A} (hn : ¬ n < 0) (hk : ¬ k < 0) (hN : n.toNatClampNeg = N') (hM : k.toNatClampNeg = K')
    (hb1 : N' * 4 ≤ 536870912) (hb2 : K' * componentBytes ty ≤ 536870912) (hb3 : K' ≤ 536870912) (hdf : fits ty (defaultValue ty) = true) (hdd : (defaultValue ty).isDefault = true) (hcells : cells + (1 + N') ≤ R.cells) (hslots : slots + (N' + N' * K') ≤ R.slots) (hz : ∀ c : ClassId, Jvm.Free.Multi.innerC c K' (defaultValue ty) = vp_cell c z) (hdg : decode cc pc = .ok (.multianewarray index 2, 4))
    (kk : ∀ (q : Nat) (r : Nat → Nat) (H1 : Heap), va_P D cl (ws ++ ((q, .inl (cA, N', .inr (.inr (.inr (.inr (fun i => if i < N' then some (r i) else none)))))) :: (List.range N').map (fun i => (r i, .inl (cy, z))))) H1 → va_D A (ws ++ ((q, .inl (cA, N', .inr (.inr (.inr (.inr (fun i => if i < N' then some (r i) else none)))))) :: (List.range N').map (fun i => (r i, .inl (cy, z))))) → va_S A H0 H1 locs →
      W p l e R s m args below meth c H1 locs (cells + 1 + N') (slots + N' + N' * K') Q (F0 m (pc + 4) ls (.ref q :: rest))) : W p l e R s m args below meth c H locs cells slots Q (F0 m pc ls (.int k :: .int n :: rest)) := by
  have h0 : ws ++ va_pl [] (fun _ => .inl (cy, z)) = ws := List.append_nil ws
  refine va_mna (X := ws) (L := []) (f := fun _ => .inl (cy, z)) hexec hb hown hclink hover harr hcy hK (by rw [h0]; exact hP) (by rw [h0]; exact hD) hS hA hn hk hN hM hb1 hb2 hb3 hdf hdd hcells hslots hz hdg (fun q r cB H1 _ _ hK1 hP1 hD1 hS1 => ?_)
  have e9 := vz_last hK ht hK1
  subst e9
  have e8 : va_pl ([] ++ (List.range N').map r) (vr_up (fun _ => .inl (cy, z)) ((List.range N').map r) (.inl (cy, z))) = (List.range N').map (fun i => (r i, (.inl (cy, z) : va_E))) := by
    unfold va_pl
    rw [List.nil_append, List.map_map]
    refine List.map_congr_left (fun i hi => ?_)
    exact congrArg (fun x : va_E => (r i, x)) (vr_up_in (List.mem_map.mpr ⟨i, hi, rfl⟩))
  rw [e8, List.append_assoc] at hP1 hD1
  exact kk q r H1 hP1 hD1 hS1
theorem vz_aldg (hexec : p.tables.exec = Jvm.exec) (hb : c.code = cc) (hK : va_K D cl tys s) (hP : va_P D cl ws H) (q0 t0 : Nat) {cA : ClassId} {ty : FieldType} {n y : Nat} {f : Nat → Option Nat} (ha : ws[q0]? = some (a, .inl (cA, n, .inr (.inr (.inr (.inr f)))))) (ht : tys[t0]? = some (cA, .array ty)) {i : Int32} (hin : vp_in i n) (hy : f i.toNatClampNeg = some y) (hdg : decode cc pc = .ok (.aaload, 1))
    (kk : W p l e R s m args below meth c H locs cells slots Q (F0 m (pc + 1) ls (.ref y :: rest))) : W p l e R s m args below meth c H locs cells slots Q (F0 m pc ls (.int i :: .ref a :: rest)) := by
  have hlt : i.toNatClampNeg < n := Nat.not_le.mp fun q => hin (Or.inr q)
  refine W.aald (v := .ref y) (ty := .array ty) hexec hb (hP q0 _ ha) ((hK.2 t0 _ ht).1 n (fun j => va_rf (f j))) rfl (fun q => by cases q) (by show ¬ (i < 0 ∨ (arrV _ _ _).slots.size ≤ _); rw [arrV_size]; exact hin) (by show (arrV _ _ _).slots[_]? = _; rw [arrV_read _ _ hlt, hy]; rfl) rfl rfl hdg kk
end VZ
theorem vz_andm1 (x : Int32) : x &&& (-1) = x := by
  apply Int32.toBitVec_inj.mp
  simp
theorem vz_sw (n : Nat) (x : Int32) : (∃ j : Nat, j ≤ n ∧ x = nI j) ∨ (x.toInt < (0 : Int) ∨ (n : Int) < x.toInt) := by
  by_cases h : x.toInt < 0
  · exact Or.inr (Or.inl h)
  · by_cases h2 : (n : Int) < x.toInt
    · exact Or.inr (Or.inr h2)
    · refine Or.inl ⟨x.toInt.toNat, by omega, ?_⟩
      obtain ⟨j, hj, rfl⟩ := nI_of (x := x) (fun q => h (by simpa [Int32.lt_iff_toInt_lt] using q))
      rw [nI_toInt hj]
      rfl
theorem vz_dfX0 : ∀ j, j < 5 → defaultValue (tyX0 j) = vp_V [.null, .int 0, .int 0, .int 0, .int 0] j := by
  intro j hj
  match j, hj with
  | 0, _ => rfl
  | 1, _ => rfl
  | 2, _ => rfl
  | 3, _ => rfl
  | 4, _ => rfl
  | j + 5, hj => exact absurd hj (by omega)
theorem vz_dfX1 : ∀ j, j < 9 → defaultValue (tyX1 j) = vp_V [.null, .null, .int 0, .int 0, .int 0, .int 0, .int 0, .null, .null] j := by
  intro j hj
  match j, hj with
  | 0, _ => rfl
  | 1, _ => rfl
  | 2, _ => rfl
  | 3, _ => rfl
  | 4, _ => rfl
  | 5, _ => rfl
  | 6, _ => rfl
  | 7, _ => rfl
  | 8, _ => rfl
  | j + 9, hj => exact absurd hj (by omega)
theorem vz_dfX2 : ∀ j, j < 6 → defaultValue (tyX2 j) = vp_V [.null, .null, .null, .null, .null, .int 0] j := by
  intro j hj
  match j, hj with
  | 0, _ => rfl
  | 1, _ => rfl
  | 2, _ => rfl
  | 3, _ => rfl
  | 4, _ => rfl
  | 5, _ => rfl
  | j + 6, hj => exact absurd hj (by omega)
theorem vz_dfX3 : ∀ j, j < 8 → defaultValue (tyX3 j) = vp_V [.null, .int 0, .int 0, .int 0, .int 0, .int 0, .int 0, .int 0] j := by
  intro j hj
  match j, hj with
  | 0, _ => rfl
  | 1, _ => rfl
  | 2, _ => rfl
  | 3, _ => rfl
  | 4, _ => rfl
  | 5, _ => rfl
  | 6, _ => rfl
  | 7, _ => rfl
  | j + 8, hj => exact absurd hj (by omega)
theorem vz_dfX4 : ∀ j, j < 4 → defaultValue (tyX4 j) = vp_V [.null, .null, .null, .int 0] j := by
  intro j hj
  match j, hj with
  | 0, _ => rfl
  | 1, _ => rfl
  | 2, _ => rfl
  | 3, _ => rfl
  | j + 4, hj => exact absurd hj (by omega)
theorem vz_dfX5 : ∀ j, j < 10 → defaultValue (tyX5 j) = vp_V [.null, .int 0, .null, .int 0, .null, .null, .null, .null, .null, .null] j := by
  intro j hj
  match j, hj with
  | 0, _ => rfl
  | 1, _ => rfl
  | 2, _ => rfl
  | 3, _ => rfl
  | 4, _ => rfl
  | 5, _ => rfl
  | 6, _ => rfl
  | 7, _ => rfl
  | 8, _ => rfl
  | 9, _ => rfl
  | j + 10, hj => exact absurd hj (by omega)
theorem vz_dfX6 : ∀ j, j < 12 → defaultValue (tyX6 j) = vp_V [.null, .null, .null, .null, .null, .null, .null, .null, .int 0, .null, .null, .null] j := by
  intro j hj
  match j, hj with
  | 0, _ => rfl
  | 1, _ => rfl
  | 2, _ => rfl
  | 3, _ => rfl
  | 4, _ => rfl
  | 5, _ => rfl
  | 6, _ => rfl
  | 7, _ => rfl
  | 8, _ => rfl
  | 9, _ => rfl
  | 10, _ => rfl
  | 11, _ => rfl
  | j + 12, hj => exact absurd hj (by omega)
theorem vz_dfX7 : ∀ j, j < 4 → defaultValue (tyX7 j) = vp_V [.null, .null, .null, .null] j := by
  intro j hj
  match j, hj with
  | 0, _ => rfl
  | 1, _ => rfl
  | 2, _ => rfl
  | 3, _ => rfl
  | j + 4, hj => exact absurd hj (by omega)
theorem vz_dfX8 : ∀ j, j < 13 → defaultValue (tyX8 j) = vp_V [.int 0, .int 0, .int 0, .int 0, .int 0, .int 0, .int 0, .int 0, .null, .null, .null, .null, .null] j := by
  intro j hj
  match j, hj with
  | 0, _ => rfl
  | 1, _ => rfl
  | 2, _ => rfl
  | 3, _ => rfl
  | 4, _ => rfl
  | 5, _ => rfl
  | 6, _ => rfl
  | 7, _ => rfl
  | 8, _ => rfl
  | 9, _ => rfl
  | 10, _ => rfl
  | 11, _ => rfl
  | 12, _ => rfl
  | j + 13, hj => exact absurd hj (by omega)
theorem vz_dfX9 : ∀ j, j < 2 → defaultValue (tyX9 j) = vp_V [.null, .int 0] j := by
  intro j hj
  match j, hj with
  | 0, _ => rfl
  | 1, _ => rfl
  | j + 2, hj => exact absurd hj (by omega)
theorem vz_dfX10 : ∀ j, j < 5 → defaultValue (tyX10 j) = vp_V [.null, .int 0, .int 0, .null, .null] j := by
  intro j hj
  match j, hj with
  | 0, _ => rfl
  | 1, _ => rfl
  | 2, _ => rfl
  | 3, _ => rfl
  | 4, _ => rfl
  | j + 5, hj => exact absurd hj (by omega)
theorem vz_dfX11 : ∀ j, j < 13 → defaultValue (tyX11 j) = vp_V [.null, .null, .null, .null, .null, .null, .int 0, .null, .null, .null, .null, .null, .null] j := by
  intro j hj
  match j, hj with
  | 0, _ => rfl
  | 1, _ => rfl
  | 2, _ => rfl
  | 3, _ => rfl
  | 4, _ => rfl
  | 5, _ => rfl
  | 6, _ => rfl
  | 7, _ => rfl
  | 8, _ => rfl
  | 9, _ => rfl
  | 10, _ => rfl
  | 11, _ => rfl
  | 12, _ => rfl
  | j + 13, hj => exact absurd hj (by omega)
theorem vz_dfX12 : ∀ j, j < 59 → defaultValue (tyX12 j) = vp_V [.int 0, .null, .null, .int 0, .null, .null, .null, .null, .null, .int 0, .null, .null, .null, .null, .null, .null, .null, .null, .null, .null, .null, .null, .int 0, .null, .null, .null, .null, .null, .null, .int 0, .int 0, .null, .int 0, .null, .int 0, .null, .int 0, .null, .int 0, .null, .null, .null, .null, .null, .int 0, .int 0, .int 0, .int 0, .int 0, .int 0, .int 0, .int 0, .null, .int 0, .null, .int 0, .null, .null, .null] j := by
  intro j hj
  match j, hj with
  | 0, _ => rfl
  | 1, _ => rfl
  | 2, _ => rfl
  | 3, _ => rfl
  | 4, _ => rfl
  | 5, _ => rfl
  | 6, _ => rfl
  | 7, _ => rfl
  | 8, _ => rfl
  | 9, _ => rfl
  | 10, _ => rfl
  | 11, _ => rfl
  | 12, _ => rfl
  | 13, _ => rfl
  | 14, _ => rfl
  | 15, _ => rfl
  | 16, _ => rfl
  | 17, _ => rfl
  | 18, _ => rfl
  | 19, _ => rfl
  | 20, _ => rfl
  | 21, _ => rfl
  | 22, _ => rfl
  | 23, _ => rfl
  | 24, _ => rfl
  | 25, _ => rfl
  | 26, _ => rfl
  | 27, _ => rfl
  | 28, _ => rfl
  | 29, _ => rfl
  | 30, _ => rfl
  | 31, _ => rfl
  | 32, _ => rfl
  | 33, _ => rfl
  | 34, _ => rfl
  | 35, _ => rfl
  | 36, _ => rfl
  | 37, _ => rfl
  | 38, _ => rfl
  | 39, _ => rfl
  | 40, _ => rfl
  | 41, _ => rfl
  | 42, _ => rfl
  | 43, _ => rfl
  | 44, _ => rfl
  | 45, _ => rfl
  | 46, _ => rfl
  | 47, _ => rfl
  | 48, _ => rfl
  | 49, _ => rfl
  | 50, _ => rfl
  | 51, _ => rfl
  | 52, _ => rfl
  | 53, _ => rfl
  | 54, _ => rfl
  | 55, _ => rfl
  | 56, _ => rfl
  | 57, _ => rfl
  | 58, _ => rfl
  | j + 59, hj => exact absurd hj (by omega)
end
section
set_option maxHeartbeats 4000000 in
set_option maxRecDepth 100000 in
theorem c_Tape_init (l : Launch) (dC : Nat → ClassId) (dI : Nat → Nat → Nat) (cy : Nat → ClassId) (h0 : Nat) (sz : Nat)  : Met l yX9_init wsX9_init ({ frames := 1, cells := 1, slots := 80, locals := 23 }) (va_Pc [.ref h0] (wPre (dC, dI) cy [(h0, .inr (9, [.null, .int 0]))] sz)) (va_Qv (fun (u : Nat → Nat) => True) (fun (u : Nat → Nat) t => wAt (dC, dI) (va_A [(h0, .inr (9, [.null, .int 0]))] sz) [(h0, .inr (9, [.ref (u 0), .int 0])), ((u 0), .inl (cy 1, 80, .inl (fun _ => 0)))] t) (va_A [(h0, .inr (9, [.null, .int 0]))] sz)) 1 80 (va_A [(h0, .inr (9, [.null, .int 0]))] sz) := by
  refine Met.ofW (cc := cX9_init) (maxL := 1) (ret := none) (by decide) rfl ?_
  intro p e s m args below meth c s₁ B hml hv
  obtain ⟨rfl, hsz, hP, hK, hD0, hN⟩ := hv
  have hx := B.exec
  have hb := B.bytes
  have hr := B.returns
  have hts := atoms_spec (ws := wsX9_init) B.pre
  have hown : s.vm.findClass RX9 = some m.cls := findClass_of_methodNamed B.named
  have hlocks := B.notSynchronized
  subst hsz
  have hin : meth.name = "<init>" := (name_of_methodNamed B.named B.method).1
  have hD := hD0.self (sz := s.heap.size)
  generalize hAe : va_A [(h0, .inr (9, [.null, .int 0]))] s.heap.size = A at hD ⊢
  have hA : ∀ q : Nat, s.heap.size ≤ q → A q := fun q h => by rw [← hAe]; exact Or.inr h
  have hS : va_S A s.heap s.heap [] := va_S.rf
  have hl := lv_entry ([.ref h0]) (n := 1) (Nat.le_of_ble_eq_true rfl)
  rw [lg_entry_eq]
  generalize (lg_sl ([.ref h0]) ++ List.replicate (1 - (lg_sl ([.ref h0])).length) Slot.unset).toArray = ls at hl ⊢
  have hl : lv_has ls 1 [(0, .ref h0)] := hl
  refine lv_aload_n hx hb dX9_init_0 rfl (lv_at hl 0 rfl) ?_
  refine W.objInit hx hb hown (hts (.methodLink RX9 3 objectInit) (List.mem_of_getElem? (i := 1) rfl)) (hts (.instanceMethod objectInit) (List.mem_of_getElem? (i := 2) rfl)) (hts (.code objectInit ⟨#[0xb1]⟩ 1 none) (List.mem_of_getElem? (i := 3) rfl)) rfl (hl.1.trans hml.symm) rfl dX9_init_1 (Nat.le_of_ble_eq_true rfl) (Nat.le_of_ble_eq_true rfl) ?_
  refine lv_aload_n hx hb dX9_init_4 rfl (lv_at hl 0 rfl) ?_
  refine lv_bipush (v := 80) hx hb dX9_init_5 (by decide) ?_
  refine vz_newa (atype := .byte) (ty := .byte) (t0 := 1) (N' := 80) (a0 := (80, .inl (fun _ => 0))) hx hb (hts (.arrayClass .byte) (List.mem_of_getElem? (i := 4) rfl)) rfl rfl hK hP hD hS hA (fun _ => rfl) (by decide) rfl (by decide) (Nat.le_of_ble_eq_true rfl) (Nat.le_of_ble_eq_true rfl) dX9_init_7 (fun q_1 H hP hD hS => ?_)
  have hP : va_P (dC, dI) vwCl [(h0, .inr (9, [.null, .int 0])), (q_1, .inl (cy 1, 80, .inl (fun _ => 0)))] H := hP
  have hD : va_D A [(h0, .inr (9, [.null, .int 0])), (q_1, .inl (cy 1, 80, .inl (fun _ => 0)))] := hD
  refine W.widen (k := 1) (n := 80) (Nat.le_of_ble_eq_true rfl) (Nat.le_of_ble_eq_true rfl) ?_
  refine va_putF (D := (dC, dI)) (ci := 9) (v := .ref q_1) (C := RX9) (T := TX9) (N := 2) hx hb hts (fun _ h9 => List.mem_cons_of_mem _ (List.mem_append_right _ h9)) tyX9 tyX9_ok nmX9 hown hK hP hD hS 0 rfl rfl 0 (by decide) (hts (.fieldLink RX9 9 "SeatsRound$Tape" "bytes" "[B") (List.mem_of_getElem? (i := 5) rfl)) (fun _ h9 => h9) rfl hin rfl (tyX9_ok 0 (by decide)) rfl rfl (Nat.le_of_ble_eq_true rfl) dX9_init_9 (fun H locs hP hD hS => ?_)
  have hP : va_P (dC, dI) vwCl [(h0, .inr (9, [.ref q_1, .int 0])), (q_1, .inl (cy 1, 80, .inl (fun _ => 0)))] H := hP
  have hD : va_D A [(h0, .inr (9, [.ref q_1, .int 0])), (q_1, .inl (cy 1, 80, .inl (fun _ => 0)))] := hD
  refine lv_aload_n hx hb dX9_init_12 rfl (lv_at hl 0 rfl) ?_
  refine lv_iconst (v := 0) hx hb dX9_init_13 (by decide) ?_
  refine va_put (D := (dC, dI)) (ci := 9) (v := .int 0) (C := RX9) (T := TX9) (N := 2) hx hb hts (fun _ h9 => List.mem_cons_of_mem _ (List.mem_append_right _ h9)) tyX9 tyX9_ok nmX9 hown hK hP hD hS 0 rfl rfl 1 (by decide) (hts (.fieldLink RX9 15 "SeatsRound$Tape" "length" "I") (List.mem_of_getElem? (i := 6) rfl)) (fun _ h9 => h9) rfl (tyX9_ok 1 (by decide)) rfl rfl (Nat.le_of_ble_eq_true rfl) dX9_init_14 (fun H locs hP hD hS => ?_)
  have hP : va_P (dC, dI) vwCl [(h0, .inr (9, [.ref q_1, .int 0])), (q_1, .inl (cy 1, 80, .inl (fun _ => 0)))] H := hP
  have hD : va_D A [(h0, .inr (9, [.ref q_1, .int 0])), (q_1, .inl (cy 1, 80, .inl (fun _ => 0)))] := hD
  have hP9 := hP.sub (ws' := [(h0, .inr (9, [.ref q_1, .int 0])), (q_1, .inl (cy 1, 80, .inl (fun _ => 0)))]) [0, 1] rfl
  have hD9 := hD.sub (ws' := [(h0, .inr (9, [.ref q_1, .int 0])), (q_1, .inl (cy 1, 80, .inl (fun _ => 0)))]) [0, 1] (by decide) rfl
  exact W.vret hx hb hr (fun t ht hW => ⟨⟨(fun k => [q_1].getD k 0), rfl, trivial, ⟨by rw [ht]; exact hP9, hD9⟩⟩, hS.F ht⟩) hS.2.2 dX9_init_17
set_option maxHeartbeats 4000000 in
set_option maxRecDepth 100000 in
theorem c_NameList_init (l : Launch) (dC : Nat → ClassId) (dI : Nat → Nat → Nat) (cy : Nat → ClassId) (h0 : Nat) (sz : Nat)  : Met l yX4_init wsX4_init ({ frames := 1, cells := 43, slots := 326, locals := 23 }) (va_Pc [.ref h0] (wPre (dC, dI) cy [(h0, .inr (4, [.null, .null, .null, .int 0]))] sz)) (va_Qv (fun (u : Nat → Nat) => True) (fun (u : Nat → Nat) t => wAt (dC, dI) (va_A [(h0, .inr (4, [.null, .null, .null, .int 0]))] sz) [(h0, .inr (4, [.ref (u 0), .ref (u 1), .ref (u 2), .int 0]))] t) (va_A [(h0, .inr (4, [.null, .null, .null, .int 0]))] sz)) 43 326 (va_A [(h0, .inr (4, [.null, .null, .null, .int 0]))] sz) := by
  refine Met.ofW (cc := cX4_init) (maxL := 1) (ret := none) (by decide) rfl ?_
  intro p e s m args below meth c s₁ B hml hv
  obtain ⟨rfl, hsz, hP, hK, hD0, hN⟩ := hv
  have hx := B.exec
  have hb := B.bytes
  have hr := B.returns
  have hts := atoms_spec (ws := wsX4_init) B.pre
  have hown : s.vm.findClass RX4 = some m.cls := findClass_of_methodNamed B.named
  have hlocks := B.notSynchronized
  subst hsz
  have hin : meth.name = "<init>" := (name_of_methodNamed B.named B.method).1
  have hD := hD0.self (sz := s.heap.size)
  generalize hAe : va_A [(h0, .inr (4, [.null, .null, .null, .int 0]))] s.heap.size = A at hD ⊢
  have hA : ∀ q : Nat, s.heap.size ≤ q → A q := fun q h => by rw [← hAe]; exact Or.inr h
  have hS : va_S A s.heap s.heap [] := va_S.rf
  have hl := lv_entry ([.ref h0]) (n := 1) (Nat.le_of_ble_eq_true rfl)
  rw [lg_entry_eq]
  generalize (lg_sl ([.ref h0]) ++ List.replicate (1 - (lg_sl ([.ref h0])).length) Slot.unset).toArray = ls at hl ⊢
  have hl : lv_has ls 1 [(0, .ref h0)] := hl
  refine lv_aload_n hx hb dX4_init_0 rfl (lv_at hl 0 rfl) ?_
  refine W.objInit hx hb hown (hts (.methodLink RX4 3 objectInit) (List.mem_of_getElem? (i := 1) rfl)) (hts (.instanceMethod objectInit) (List.mem_of_getElem? (i := 2) rfl)) (hts (.code objectInit ⟨#[0xb1]⟩ 1 none) (List.mem_of_getElem? (i := 3) rfl)) rfl (hl.1.trans hml.symm) rfl dX4_init_1 (Nat.le_of_ble_eq_true rfl) (Nat.le_of_ble_eq_true rfl) ?_
  refine lv_aload_n hx hb dX4_init_4 rfl (lv_at hl 0 rfl) ?_
  refine lv_bipush (v := 40) hx hb dX4_init_5 (by decide) ?_
  refine lv_bipush (v := 6) hx hb dX4_init_7 (by decide) ?_
  refine vz_mna (t0 := 5) (t1 := 1) (N' := 40) (K' := 6) (z := (6, .inl (fun _ => 0))) (ty := .byte) hx hb hown (hts (.classLink RX4 9 "[[B") (List.mem_of_getElem? (i := 4) rfl)) hN.2.2.1 (hts (.arrayClass .byte) (List.mem_of_getElem? (i := 5) rfl)) rfl (hK.2 1 _ rfl).2 hK hP hD hS hA (by decide) (by decide) rfl rfl (by decide) (by decide) (by decide) rfl rfl (Nat.le_of_ble_eq_true rfl) (Nat.le_of_ble_eq_true rfl) (fun _ => rfl) dX4_init_9 (fun q_1 r_2 H hP hD hS => ?_)
  have hP := va_P.take 2 hP
  have hD := va_D.take 2 hD
  have hP : va_P (dC, dI) vwCl [(h0, .inr (4, [.null, .null, .null, .int 0])), (q_1, .inl (cy 5, 40, .inr (.inr (.inr (.inr (fun i => if i < 40 then some (r_2 i) else none))))))] H := hP
  have hD : va_D A [(h0, .inr (4, [.null, .null, .null, .int 0])), (q_1, .inl (cy 5, 40, .inr (.inr (.inr (.inr (fun i => if i < 40 then some (r_2 i) else none))))))] := hD
  refine W.widen (k := 41) (n := 280) (Nat.le_of_ble_eq_true rfl) (Nat.le_of_ble_eq_true rfl) ?_
  refine va_putF (D := (dC, dI)) (ci := 4) (v := .ref q_1) (C := RX4) (T := TX4) (N := 4) hx hb hts (fun _ h9 => List.mem_cons_of_mem _ (List.mem_append_right _ h9)) tyX4 tyX4_ok nmX4 hown hK hP hD hS 0 rfl rfl 0 (by decide) (hts (.fieldLink RX4 11 "SeatsRound$NameList" "bytes" "[[B") (List.mem_of_getElem? (i := 6) rfl)) (fun _ h9 => h9) rfl hin rfl (tyX4_ok 0 (by decide)) rfl rfl (Nat.le_of_ble_eq_true rfl) dX4_init_13 (fun H locs hP hD hS => ?_)
  have hP : va_P (dC, dI) vwCl [(h0, .inr (4, [.ref q_1, .null, .null, .int 0])), (q_1, .inl (cy 5, 40, .inr (.inr (.inr (.inr (fun i => if i < 40 then some (r_2 i) else none))))))] H := hP
  have hD : va_D A [(h0, .inr (4, [.ref q_1, .null, .null, .int 0])), (q_1, .inl (cy 5, 40, .inr (.inr (.inr (.inr (fun i => if i < 40 then some (r_2 i) else none))))))] := hD
  have hP := hP.sub (ws' := [(h0, .inr (4, [.ref q_1, .null, .null, .int 0]))]) [0] rfl
  have hD := hD.sub (ws' := [(h0, .inr (4, [.ref q_1, .null, .null, .int 0]))]) [0] (by decide) rfl
  refine lv_aload_n hx hb dX4_init_16 rfl (lv_at hl 0 rfl) ?_
  refine lv_bipush (v := 40) hx hb dX4_init_17 (by decide) ?_
  refine vz_newa (atype := .int) (ty := .int) (t0 := 0) (N' := 40) (a0 := (40, .inl (fun _ => 0))) hx hb (hts (.arrayClass .int) (List.mem_of_getElem? (i := 7) rfl)) rfl rfl hK hP hD hS hA (fun _ => rfl) (by decide) rfl (by decide) (Nat.le_of_ble_eq_true rfl) (Nat.le_of_ble_eq_true rfl) dX4_init_19 (fun q_3 H hP hD hS => ?_)
  have hP : va_P (dC, dI) vwCl [(h0, .inr (4, [.ref q_1, .null, .null, .int 0])), (q_3, .inl (cy 0, 40, .inl (fun _ => 0)))] H := hP
  have hD : va_D A [(h0, .inr (4, [.ref q_1, .null, .null, .int 0])), (q_3, .inl (cy 0, 40, .inl (fun _ => 0)))] := hD
  refine W.widen (k := 42) (n := 320) (Nat.le_of_ble_eq_true rfl) (Nat.le_of_ble_eq_true rfl) ?_
  refine va_putF (D := (dC, dI)) (ci := 4) (v := .ref q_3) (C := RX4) (T := TX4) (N := 4) hx hb hts (fun _ h9 => List.mem_cons_of_mem _ (List.mem_append_right _ h9)) tyX4 tyX4_ok nmX4 hown hK hP hD hS 0 rfl rfl 1 (by decide) (hts (.fieldLink RX4 16 "SeatsRound$NameList" "size" "[I") (List.mem_of_getElem? (i := 8) rfl)) (fun _ h9 => h9) rfl hin rfl (tyX4_ok 1 (by decide)) rfl rfl (Nat.le_of_ble_eq_true rfl) dX4_init_21 (fun H locs hP hD hS => ?_)
  have hP : va_P (dC, dI) vwCl [(h0, .inr (4, [.ref q_1, .ref q_3, .null, .int 0])), (q_3, .inl (cy 0, 40, .inl (fun _ => 0)))] H := hP
  have hD : va_D A [(h0, .inr (4, [.ref q_1, .ref q_3, .null, .int 0])), (q_3, .inl (cy 0, 40, .inl (fun _ => 0)))] := hD
  have hP := hP.sub (ws' := [(h0, .inr (4, [.ref q_1, .ref q_3, .null, .int 0]))]) [0] rfl
  have hD := hD.sub (ws' := [(h0, .inr (4, [.ref q_1, .ref q_3, .null, .int 0]))]) [0] (by decide) rfl
  refine lv_aload_n hx hb dX4_init_24 rfl (lv_at hl 0 rfl) ?_
  refine lv_bipush (v := 6) hx hb dX4_init_25 (by decide) ?_
  refine vz_newa (atype := .byte) (ty := .byte) (t0 := 1) (N' := 6) (a0 := (6, .inl (fun _ => 0))) hx hb (hts (.arrayClass .byte) (List.mem_of_getElem? (i := 5) rfl)) rfl rfl hK hP hD hS hA (fun _ => rfl) (by decide) rfl (by decide) (Nat.le_of_ble_eq_true rfl) (Nat.le_of_ble_eq_true rfl) dX4_init_27 (fun q_4 H hP hD hS => ?_)
  have hP : va_P (dC, dI) vwCl [(h0, .inr (4, [.ref q_1, .ref q_3, .null, .int 0])), (q_4, .inl (cy 1, 6, .inl (fun _ => 0)))] H := hP
  have hD : va_D A [(h0, .inr (4, [.ref q_1, .ref q_3, .null, .int 0])), (q_4, .inl (cy 1, 6, .inl (fun _ => 0)))] := hD
  refine W.widen (k := 43) (n := 326) (Nat.le_of_ble_eq_true rfl) (Nat.le_of_ble_eq_true rfl) ?_
  refine va_putF (D := (dC, dI)) (ci := 4) (v := .ref q_4) (C := RX4) (T := TX4) (N := 4) hx hb hts (fun _ h9 => List.mem_cons_of_mem _ (List.mem_append_right _ h9)) tyX4 tyX4_ok nmX4 hown hK hP hD hS 0 rfl rfl 2 (by decide) (hts (.fieldLink RX4 20 "SeatsRound$NameList" "read" "[B") (List.mem_of_getElem? (i := 9) rfl)) (fun _ h9 => h9) rfl hin rfl (tyX4_ok 2 (by decide)) rfl rfl (Nat.le_of_ble_eq_true rfl) dX4_init_29 (fun H locs hP hD hS => ?_)
  have hP : va_P (dC, dI) vwCl [(h0, .inr (4, [.ref q_1, .ref q_3, .ref q_4, .int 0])), (q_4, .inl (cy 1, 6, .inl (fun _ => 0)))] H := hP
  have hD : va_D A [(h0, .inr (4, [.ref q_1, .ref q_3, .ref q_4, .int 0])), (q_4, .inl (cy 1, 6, .inl (fun _ => 0)))] := hD
  have hP := hP.sub (ws' := [(h0, .inr (4, [.ref q_1, .ref q_3, .ref q_4, .int 0]))]) [0] rfl
  have hD := hD.sub (ws' := [(h0, .inr (4, [.ref q_1, .ref q_3, .ref q_4, .int 0]))]) [0] (by decide) rfl
  refine lv_aload_n hx hb dX4_init_32 rfl (lv_at hl 0 rfl) ?_
  refine lv_iconst (v := 0) hx hb dX4_init_33 (by decide) ?_
  refine va_put (D := (dC, dI)) (ci := 4) (v := .int 0) (C := RX4) (T := TX4) (N := 4) hx hb hts (fun _ h9 => List.mem_cons_of_mem _ (List.mem_append_right _ h9)) tyX4 tyX4_ok nmX4 hown hK hP hD hS 0 rfl rfl 3 (by decide) (hts (.fieldLink RX4 24 "SeatsRound$NameList" "count" "I") (List.mem_of_getElem? (i := 10) rfl)) (fun _ h9 => h9) rfl (tyX4_ok 3 (by decide)) rfl rfl (Nat.le_of_ble_eq_true rfl) dX4_init_34 (fun H locs hP hD hS => ?_)
  have hP : va_P (dC, dI) vwCl [(h0, .inr (4, [.ref q_1, .ref q_3, .ref q_4, .int 0]))] H := hP
  have hD : va_D A [(h0, .inr (4, [.ref q_1, .ref q_3, .ref q_4, .int 0]))] := hD
  have hP9 := hP.sub (ws' := [(h0, .inr (4, [.ref q_1, .ref q_3, .ref q_4, .int 0]))]) [0] rfl
  have hD9 := hD.sub (ws' := [(h0, .inr (4, [.ref q_1, .ref q_3, .ref q_4, .int 0]))]) [0] (by decide) rfl
  exact W.vret hx hb hr (fun t ht hW => ⟨⟨(fun k => [q_1, q_3, q_4].getD k 0), rfl, trivial, ⟨by rw [ht]; exact hP9, hD9⟩⟩, hS.F ht⟩) hS.2.2 dX4_init_37
set_option maxHeartbeats 4000000 in
set_option maxRecDepth 100000 in
theorem c_Keepers_init (l : Launch) (dC : Nat → ClassId) (dI : Nat → Nat → Nat) (cy : Nat → ClassId) (h0 : Nat) (sz : Nat)  : Met l yX2_init wsX2_init ({ frames := 1, cells := 5, slots := 60, locals := 23 }) (va_Pc [.ref h0] (wPre (dC, dI) cy [(h0, .inr (2, [.null, .null, .null, .null, .null, .int 0]))] sz)) (va_Qv (fun (u : Nat → Nat) => True) (fun (u : Nat → Nat) t => wAt (dC, dI) (va_A [(h0, .inr (2, [.null, .null, .null, .null, .null, .int 0]))] sz) [(h0, .inr (2, [.ref (u 0), .ref (u 1), .ref (u 2), .ref (u 3), .ref (u 4), .int 0])), ((u 0), .inl (cy 0, 12, .inl (fun _ => 0))), ((u 1), .inl (cy 0, 12, .inl (fun _ => 0))), ((u 2), .inl (cy 0, 12, .inl (fun _ => 0))), ((u 3), .inl (cy 0, 12, .inl (fun _ => 0)))] t) (va_A [(h0, .inr (2, [.null, .null, .null, .null, .null, .int 0]))] sz)) 5 60 (va_A [(h0, .inr (2, [.null, .null, .null, .null, .null, .int 0]))] sz) := by
  refine Met.ofW (cc := cX2_init) (maxL := 1) (ret := none) (by decide) rfl ?_
  intro p e s m args below meth c s₁ B hml hv
  obtain ⟨rfl, hsz, hP, hK, hD0, hN⟩ := hv
  have hx := B.exec
  have hb := B.bytes
  have hr := B.returns
  have hts := atoms_spec (ws := wsX2_init) B.pre
  have hown : s.vm.findClass RX2 = some m.cls := findClass_of_methodNamed B.named
  have hlocks := B.notSynchronized
  subst hsz
  have hin : meth.name = "<init>" := (name_of_methodNamed B.named B.method).1
  have hD := hD0.self (sz := s.heap.size)
  generalize hAe : va_A [(h0, .inr (2, [.null, .null, .null, .null, .null, .int 0]))] s.heap.size = A at hD ⊢
  have hA : ∀ q : Nat, s.heap.size ≤ q → A q := fun q h => by rw [← hAe]; exact Or.inr h
  have hS : va_S A s.heap s.heap [] := va_S.rf
  have hl := lv_entry ([.ref h0]) (n := 1) (Nat.le_of_ble_eq_true rfl)
  rw [lg_entry_eq]
  generalize (lg_sl ([.ref h0]) ++ List.replicate (1 - (lg_sl ([.ref h0])).length) Slot.unset).toArray = ls at hl ⊢
  have hl : lv_has ls 1 [(0, .ref h0)] := hl
  refine lv_aload_n hx hb dX2_init_0 rfl (lv_at hl 0 rfl) ?_
  refine W.objInit hx hb hown (hts (.methodLink RX2 3 objectInit) (List.mem_of_getElem? (i := 1) rfl)) (hts (.instanceMethod objectInit) (List.mem_of_getElem? (i := 2) rfl)) (hts (.code objectInit ⟨#[0xb1]⟩ 1 none) (List.mem_of_getElem? (i := 3) rfl)) rfl (hl.1.trans hml.symm) rfl dX2_init_1 (Nat.le_of_ble_eq_true rfl) (Nat.le_of_ble_eq_true rfl) ?_
  refine lv_aload_n hx hb dX2_init_4 rfl (lv_at hl 0 rfl) ?_
  refine lv_bipush (v := 12) hx hb dX2_init_5 (by decide) ?_
  refine vz_newa (atype := .int) (ty := .int) (t0 := 0) (N' := 12) (a0 := (12, .inl (fun _ => 0))) hx hb (hts (.arrayClass .int) (List.mem_of_getElem? (i := 4) rfl)) rfl rfl hK hP hD hS hA (fun _ => rfl) (by decide) rfl (by decide) (Nat.le_of_ble_eq_true rfl) (Nat.le_of_ble_eq_true rfl) dX2_init_7 (fun q_1 H hP hD hS => ?_)
  have hP : va_P (dC, dI) vwCl [(h0, .inr (2, [.null, .null, .null, .null, .null, .int 0])), (q_1, .inl (cy 0, 12, .inl (fun _ => 0)))] H := hP
  have hD : va_D A [(h0, .inr (2, [.null, .null, .null, .null, .null, .int 0])), (q_1, .inl (cy 0, 12, .inl (fun _ => 0)))] := hD
  refine W.widen (k := 1) (n := 12) (Nat.le_of_ble_eq_true rfl) (Nat.le_of_ble_eq_true rfl) ?_
  refine va_putF (D := (dC, dI)) (ci := 2) (v := .ref q_1) (C := RX2) (T := TX2) (N := 6) hx hb hts (fun _ h9 => List.mem_cons_of_mem _ (List.mem_append_right _ h9)) tyX2 tyX2_ok nmX2 hown hK hP hD hS 0 rfl rfl 0 (by decide) (hts (.fieldLink RX2 9 "SeatsRound$Keepers" "kind" "[I") (List.mem_of_getElem? (i := 5) rfl)) (fun _ h9 => h9) rfl hin rfl (tyX2_ok 0 (by decide)) rfl rfl (Nat.le_of_ble_eq_true rfl) dX2_init_9 (fun H locs hP hD hS => ?_)
  have hP : va_P (dC, dI) vwCl [(h0, .inr (2, [.ref q_1, .null, .null, .null, .null, .int 0])), (q_1, .inl (cy 0, 12, .inl (fun _ => 0)))] H := hP
  have hD : va_D A [(h0, .inr (2, [.ref q_1, .null, .null, .null, .null, .int 0])), (q_1, .inl (cy 0, 12, .inl (fun _ => 0)))] := hD
  refine lv_aload_n hx hb dX2_init_12 rfl (lv_at hl 0 rfl) ?_
  refine lv_bipush (v := 12) hx hb dX2_init_13 (by decide) ?_
  refine vz_newa (atype := .int) (ty := .int) (t0 := 0) (N' := 12) (a0 := (12, .inl (fun _ => 0))) hx hb (hts (.arrayClass .int) (List.mem_of_getElem? (i := 4) rfl)) rfl rfl hK hP hD hS hA (fun _ => rfl) (by decide) rfl (by decide) (Nat.le_of_ble_eq_true rfl) (Nat.le_of_ble_eq_true rfl) dX2_init_15 (fun q_2 H hP hD hS => ?_)
  have hP : va_P (dC, dI) vwCl [(h0, .inr (2, [.ref q_1, .null, .null, .null, .null, .int 0])), (q_1, .inl (cy 0, 12, .inl (fun _ => 0))), (q_2, .inl (cy 0, 12, .inl (fun _ => 0)))] H := hP
  have hD : va_D A [(h0, .inr (2, [.ref q_1, .null, .null, .null, .null, .int 0])), (q_1, .inl (cy 0, 12, .inl (fun _ => 0))), (q_2, .inl (cy 0, 12, .inl (fun _ => 0)))] := hD
  refine W.widen (k := 2) (n := 24) (Nat.le_of_ble_eq_true rfl) (Nat.le_of_ble_eq_true rfl) ?_
  refine va_putF (D := (dC, dI)) (ci := 2) (v := .ref q_2) (C := RX2) (T := TX2) (N := 6) hx hb hts (fun _ h9 => List.mem_cons_of_mem _ (List.mem_append_right _ h9)) tyX2 tyX2_ok nmX2 hown hK hP hD hS 0 rfl rfl 1 (by decide) (hts (.fieldLink RX2 15 "SeatsRound$Keepers" "street" "[I") (List.mem_of_getElem? (i := 6) rfl)) (fun _ h9 => h9) rfl hin rfl (tyX2_ok 1 (by decide)) rfl rfl (Nat.le_of_ble_eq_true rfl) dX2_init_17 (fun H locs hP hD hS => ?_)
  have hP : va_P (dC, dI) vwCl [(h0, .inr (2, [.ref q_1, .ref q_2, .null, .null, .null, .int 0])), (q_1, .inl (cy 0, 12, .inl (fun _ => 0))), (q_2, .inl (cy 0, 12, .inl (fun _ => 0)))] H := hP
  have hD : va_D A [(h0, .inr (2, [.ref q_1, .ref q_2, .null, .null, .null, .int 0])), (q_1, .inl (cy 0, 12, .inl (fun _ => 0))), (q_2, .inl (cy 0, 12, .inl (fun _ => 0)))] := hD
  refine lv_aload_n hx hb dX2_init_20 rfl (lv_at hl 0 rfl) ?_
  refine lv_bipush (v := 12) hx hb dX2_init_21 (by decide) ?_
  refine vz_newa (atype := .int) (ty := .int) (t0 := 0) (N' := 12) (a0 := (12, .inl (fun _ => 0))) hx hb (hts (.arrayClass .int) (List.mem_of_getElem? (i := 4) rfl)) rfl rfl hK hP hD hS hA (fun _ => rfl) (by decide) rfl (by decide) (Nat.le_of_ble_eq_true rfl) (Nat.le_of_ble_eq_true rfl) dX2_init_23 (fun q_3 H hP hD hS => ?_)
  have hP : va_P (dC, dI) vwCl [(h0, .inr (2, [.ref q_1, .ref q_2, .null, .null, .null, .int 0])), (q_1, .inl (cy 0, 12, .inl (fun _ => 0))), (q_2, .inl (cy 0, 12, .inl (fun _ => 0))), (q_3, .inl (cy 0, 12, .inl (fun _ => 0)))] H := hP
  have hD : va_D A [(h0, .inr (2, [.ref q_1, .ref q_2, .null, .null, .null, .int 0])), (q_1, .inl (cy 0, 12, .inl (fun _ => 0))), (q_2, .inl (cy 0, 12, .inl (fun _ => 0))), (q_3, .inl (cy 0, 12, .inl (fun _ => 0)))] := hD
  refine W.widen (k := 3) (n := 36) (Nat.le_of_ble_eq_true rfl) (Nat.le_of_ble_eq_true rfl) ?_
  refine va_putF (D := (dC, dI)) (ci := 2) (v := .ref q_3) (C := RX2) (T := TX2) (N := 6) hx hb hts (fun _ h9 => List.mem_cons_of_mem _ (List.mem_append_right _ h9)) tyX2 tyX2_ok nmX2 hown hK hP hD hS 0 rfl rfl 2 (by decide) (hts (.fieldLink RX2 18 "SeatsRound$Keepers" "strength" "[I") (List.mem_of_getElem? (i := 7) rfl)) (fun _ h9 => h9) rfl hin rfl (tyX2_ok 2 (by decide)) rfl rfl (Nat.le_of_ble_eq_true rfl) dX2_init_25 (fun H locs hP hD hS => ?_)
  have hP : va_P (dC, dI) vwCl [(h0, .inr (2, [.ref q_1, .ref q_2, .ref q_3, .null, .null, .int 0])), (q_1, .inl (cy 0, 12, .inl (fun _ => 0))), (q_2, .inl (cy 0, 12, .inl (fun _ => 0))), (q_3, .inl (cy 0, 12, .inl (fun _ => 0)))] H := hP
  have hD : va_D A [(h0, .inr (2, [.ref q_1, .ref q_2, .ref q_3, .null, .null, .int 0])), (q_1, .inl (cy 0, 12, .inl (fun _ => 0))), (q_2, .inl (cy 0, 12, .inl (fun _ => 0))), (q_3, .inl (cy 0, 12, .inl (fun _ => 0)))] := hD
  refine lv_aload_n hx hb dX2_init_28 rfl (lv_at hl 0 rfl) ?_
  refine lv_bipush (v := 12) hx hb dX2_init_29 (by decide) ?_
  refine vz_newa (atype := .int) (ty := .int) (t0 := 0) (N' := 12) (a0 := (12, .inl (fun _ => 0))) hx hb (hts (.arrayClass .int) (List.mem_of_getElem? (i := 4) rfl)) rfl rfl hK hP hD hS hA (fun _ => rfl) (by decide) rfl (by decide) (Nat.le_of_ble_eq_true rfl) (Nat.le_of_ble_eq_true rfl) dX2_init_31 (fun q_4 H hP hD hS => ?_)
  have hP : va_P (dC, dI) vwCl [(h0, .inr (2, [.ref q_1, .ref q_2, .ref q_3, .null, .null, .int 0])), (q_1, .inl (cy 0, 12, .inl (fun _ => 0))), (q_2, .inl (cy 0, 12, .inl (fun _ => 0))), (q_3, .inl (cy 0, 12, .inl (fun _ => 0))), (q_4, .inl (cy 0, 12, .inl (fun _ => 0)))] H := hP
  have hD : va_D A [(h0, .inr (2, [.ref q_1, .ref q_2, .ref q_3, .null, .null, .int 0])), (q_1, .inl (cy 0, 12, .inl (fun _ => 0))), (q_2, .inl (cy 0, 12, .inl (fun _ => 0))), (q_3, .inl (cy 0, 12, .inl (fun _ => 0))), (q_4, .inl (cy 0, 12, .inl (fun _ => 0)))] := hD
  refine W.widen (k := 4) (n := 48) (Nat.le_of_ble_eq_true rfl) (Nat.le_of_ble_eq_true rfl) ?_
  refine va_putF (D := (dC, dI)) (ci := 2) (v := .ref q_4) (C := RX2) (T := TX2) (N := 6) hx hb hts (fun _ h9 => List.mem_cons_of_mem _ (List.mem_append_right _ h9)) tyX2 tyX2_ok nmX2 hown hK hP hD hS 0 rfl rfl 3 (by decide) (hts (.fieldLink RX2 21 "SeatsRound$Keepers" "table" "[I") (List.mem_of_getElem? (i := 8) rfl)) (fun _ h9 => h9) rfl hin rfl (tyX2_ok 3 (by decide)) rfl rfl (Nat.le_of_ble_eq_true rfl) dX2_init_33 (fun H locs hP hD hS => ?_)
  have hP : va_P (dC, dI) vwCl [(h0, .inr (2, [.ref q_1, .ref q_2, .ref q_3, .ref q_4, .null, .int 0])), (q_1, .inl (cy 0, 12, .inl (fun _ => 0))), (q_2, .inl (cy 0, 12, .inl (fun _ => 0))), (q_3, .inl (cy 0, 12, .inl (fun _ => 0))), (q_4, .inl (cy 0, 12, .inl (fun _ => 0)))] H := hP
  have hD : va_D A [(h0, .inr (2, [.ref q_1, .ref q_2, .ref q_3, .ref q_4, .null, .int 0])), (q_1, .inl (cy 0, 12, .inl (fun _ => 0))), (q_2, .inl (cy 0, 12, .inl (fun _ => 0))), (q_3, .inl (cy 0, 12, .inl (fun _ => 0))), (q_4, .inl (cy 0, 12, .inl (fun _ => 0)))] := hD
  refine lv_aload_n hx hb dX2_init_36 rfl (lv_at hl 0 rfl) ?_
  refine lv_bipush (v := 12) hx hb dX2_init_37 (by decide) ?_
  refine vz_newa (atype := .boolean) (ty := .boolean) (t0 := 2) (N' := 12) (a0 := (12, .inl (fun _ => 0))) hx hb (hts (.arrayClass .boolean) (List.mem_of_getElem? (i := 9) rfl)) rfl rfl hK hP hD hS hA (fun _ => rfl) (by decide) rfl (by decide) (Nat.le_of_ble_eq_true rfl) (Nat.le_of_ble_eq_true rfl) dX2_init_39 (fun q_5 H hP hD hS => ?_)
  have hP : va_P (dC, dI) vwCl [(h0, .inr (2, [.ref q_1, .ref q_2, .ref q_3, .ref q_4, .null, .int 0])), (q_1, .inl (cy 0, 12, .inl (fun _ => 0))), (q_2, .inl (cy 0, 12, .inl (fun _ => 0))), (q_3, .inl (cy 0, 12, .inl (fun _ => 0))), (q_4, .inl (cy 0, 12, .inl (fun _ => 0))), (q_5, .inl (cy 2, 12, .inl (fun _ => 0)))] H := hP
  have hD : va_D A [(h0, .inr (2, [.ref q_1, .ref q_2, .ref q_3, .ref q_4, .null, .int 0])), (q_1, .inl (cy 0, 12, .inl (fun _ => 0))), (q_2, .inl (cy 0, 12, .inl (fun _ => 0))), (q_3, .inl (cy 0, 12, .inl (fun _ => 0))), (q_4, .inl (cy 0, 12, .inl (fun _ => 0))), (q_5, .inl (cy 2, 12, .inl (fun _ => 0)))] := hD
  refine W.widen (k := 5) (n := 60) (Nat.le_of_ble_eq_true rfl) (Nat.le_of_ble_eq_true rfl) ?_
  refine va_putF (D := (dC, dI)) (ci := 2) (v := .ref q_5) (C := RX2) (T := TX2) (N := 6) hx hb hts (fun _ h9 => List.mem_cons_of_mem _ (List.mem_append_right _ h9)) tyX2 tyX2_ok nmX2 hown hK hP hD hS 0 rfl rfl 4 (by decide) (hts (.fieldLink RX2 24 "SeatsRound$Keepers" "fallen" "[Z") (List.mem_of_getElem? (i := 10) rfl)) (fun _ h9 => h9) rfl hin rfl (tyX2_ok 4 (by decide)) rfl rfl (Nat.le_of_ble_eq_true rfl) dX2_init_41 (fun H locs hP hD hS => ?_)
  have hP : va_P (dC, dI) vwCl [(h0, .inr (2, [.ref q_1, .ref q_2, .ref q_3, .ref q_4, .ref q_5, .int 0])), (q_1, .inl (cy 0, 12, .inl (fun _ => 0))), (q_2, .inl (cy 0, 12, .inl (fun _ => 0))), (q_3, .inl (cy 0, 12, .inl (fun _ => 0))), (q_4, .inl (cy 0, 12, .inl (fun _ => 0))), (q_5, .inl (cy 2, 12, .inl (fun _ => 0)))] H := hP
  have hD : va_D A [(h0, .inr (2, [.ref q_1, .ref q_2, .ref q_3, .ref q_4, .ref q_5, .int 0])), (q_1, .inl (cy 0, 12, .inl (fun _ => 0))), (q_2, .inl (cy 0, 12, .inl (fun _ => 0))), (q_3, .inl (cy 0, 12, .inl (fun _ => 0))), (q_4, .inl (cy 0, 12, .inl (fun _ => 0))), (q_5, .inl (cy 2, 12, .inl (fun _ => 0)))] := hD
  have hP := hP.sub (ws' := [(h0, .inr (2, [.ref q_1, .ref q_2, .ref q_3, .ref q_4, .ref q_5, .int 0])), (q_1, .inl (cy 0, 12, .inl (fun _ => 0))), (q_2, .inl (cy 0, 12, .inl (fun _ => 0))), (q_3, .inl (cy 0, 12, .inl (fun _ => 0))), (q_4, .inl (cy 0, 12, .inl (fun _ => 0)))]) [0, 1, 2, 3, 4] rfl
  have hD := hD.sub (ws' := [(h0, .inr (2, [.ref q_1, .ref q_2, .ref q_3, .ref q_4, .ref q_5, .int 0])), (q_1, .inl (cy 0, 12, .inl (fun _ => 0))), (q_2, .inl (cy 0, 12, .inl (fun _ => 0))), (q_3, .inl (cy 0, 12, .inl (fun _ => 0))), (q_4, .inl (cy 0, 12, .inl (fun _ => 0)))]) [0, 1, 2, 3, 4] (by decide) rfl
  refine lv_aload_n hx hb dX2_init_44 rfl (lv_at hl 0 rfl) ?_
  refine lv_iconst (v := 0) hx hb dX2_init_45 (by decide) ?_
  refine va_put (D := (dC, dI)) (ci := 2) (v := .int 0) (C := RX2) (T := TX2) (N := 6) hx hb hts (fun _ h9 => List.mem_cons_of_mem _ (List.mem_append_right _ h9)) tyX2 tyX2_ok nmX2 hown hK hP hD hS 0 rfl rfl 5 (by decide) (hts (.fieldLink RX2 28 "SeatsRound$Keepers" "count" "I") (List.mem_of_getElem? (i := 11) rfl)) (fun _ h9 => h9) rfl (tyX2_ok 5 (by decide)) rfl rfl (Nat.le_of_ble_eq_true rfl) dX2_init_46 (fun H locs hP hD hS => ?_)
  have hP : va_P (dC, dI) vwCl [(h0, .inr (2, [.ref q_1, .ref q_2, .ref q_3, .ref q_4, .ref q_5, .int 0])), (q_1, .inl (cy 0, 12, .inl (fun _ => 0))), (q_2, .inl (cy 0, 12, .inl (fun _ => 0))), (q_3, .inl (cy 0, 12, .inl (fun _ => 0))), (q_4, .inl (cy 0, 12, .inl (fun _ => 0)))] H := hP
  have hD : va_D A [(h0, .inr (2, [.ref q_1, .ref q_2, .ref q_3, .ref q_4, .ref q_5, .int 0])), (q_1, .inl (cy 0, 12, .inl (fun _ => 0))), (q_2, .inl (cy 0, 12, .inl (fun _ => 0))), (q_3, .inl (cy 0, 12, .inl (fun _ => 0))), (q_4, .inl (cy 0, 12, .inl (fun _ => 0)))] := hD
  have hP9 := hP.sub (ws' := [(h0, .inr (2, [.ref q_1, .ref q_2, .ref q_3, .ref q_4, .ref q_5, .int 0])), (q_1, .inl (cy 0, 12, .inl (fun _ => 0))), (q_2, .inl (cy 0, 12, .inl (fun _ => 0))), (q_3, .inl (cy 0, 12, .inl (fun _ => 0))), (q_4, .inl (cy 0, 12, .inl (fun _ => 0)))]) [0, 1, 2, 3, 4] rfl
  have hD9 := hD.sub (ws' := [(h0, .inr (2, [.ref q_1, .ref q_2, .ref q_3, .ref q_4, .ref q_5, .int 0])), (q_1, .inl (cy 0, 12, .inl (fun _ => 0))), (q_2, .inl (cy 0, 12, .inl (fun _ => 0))), (q_3, .inl (cy 0, 12, .inl (fun _ => 0))), (q_4, .inl (cy 0, 12, .inl (fun _ => 0)))]) [0, 1, 2, 3, 4] (by decide) rfl
  exact W.vret hx hb hr (fun t ht hW => ⟨⟨(fun k => [q_1, q_2, q_3, q_4, q_5].getD k 0), rfl, trivial, ⟨by rw [ht]; exact hP9, hD9⟩⟩, hS.F ht⟩) hS.2.2 dX2_init_49
set_option maxHeartbeats 4000000 in
set_option maxRecDepth 100000 in
theorem c_Law_init (l : Launch) (dC : Nat → ClassId) (dI : Nat → Nat → Nat) (cy : Nat → ClassId) (h0 : Nat) (sz : Nat)  : Met l yX3_init wsX3_init ({ frames := 1, cells := 1, slots := 0, locals := 23 }) (va_Pc [.ref h0] (wPre (dC, dI) cy [(h0, .inr (3, [.null, .int 0, .int 0, .int 0, .int 0, .int 0, .int 0, .int 0]))] sz)) (va_Qv (fun (u : Nat → Nat) => True) (fun (u : Nat → Nat) t => wAt (dC, dI) (va_A [(h0, .inr (3, [.null, .int 0, .int 0, .int 0, .int 0, .int 0, .int 0, .int 0]))] sz) [] t) (va_A [(h0, .inr (3, [.null, .int 0, .int 0, .int 0, .int 0, .int 0, .int 0, .int 0]))] sz)) 1 0 (va_A [(h0, .inr (3, [.null, .int 0, .int 0, .int 0, .int 0, .int 0, .int 0, .int 0]))] sz) := by
  refine Met.ofW (cc := cX3_init) (maxL := 1) (ret := none) (by decide) rfl ?_
  intro p e s m args below meth c s₁ B hml hv
  obtain ⟨rfl, hsz, hP, hK, hD0, hN⟩ := hv
  have hx := B.exec
  have hb := B.bytes
  have hr := B.returns
  have hts := atoms_spec (ws := wsX3_init) B.pre
  have hown : s.vm.findClass RX3 = some m.cls := findClass_of_methodNamed B.named
  have hlocks := B.notSynchronized
  subst hsz
  have hin : meth.name = "<init>" := (name_of_methodNamed B.named B.method).1
  have hD := hD0.self (sz := s.heap.size)
  generalize hAe : va_A [(h0, .inr (3, [.null, .int 0, .int 0, .int 0, .int 0, .int 0, .int 0, .int 0]))] s.heap.size = A at hD ⊢
  have hA : ∀ q : Nat, s.heap.size ≤ q → A q := fun q h => by rw [← hAe]; exact Or.inr h
  have hS : va_S A s.heap s.heap [] := va_S.rf
  have hl := lv_entry ([.ref h0]) (n := 1) (Nat.le_of_ble_eq_true rfl)
  rw [lg_entry_eq]
  generalize (lg_sl ([.ref h0]) ++ List.replicate (1 - (lg_sl ([.ref h0])).length) Slot.unset).toArray = ls at hl ⊢
  have hl : lv_has ls 1 [(0, .ref h0)] := hl
  refine lv_aload_n hx hb dX3_init_0 rfl (lv_at hl 0 rfl) ?_
  refine W.objInit hx hb hown (hts (.methodLink RX3 3 objectInit) (List.mem_of_getElem? (i := 1) rfl)) (hts (.instanceMethod objectInit) (List.mem_of_getElem? (i := 2) rfl)) (hts (.code objectInit ⟨#[0xb1]⟩ 1 none) (List.mem_of_getElem? (i := 3) rfl)) rfl (hl.1.trans hml.symm) rfl dX3_init_1 (Nat.le_of_ble_eq_true rfl) (Nat.le_of_ble_eq_true rfl) ?_
  refine lv_aload_n hx hb dX3_init_4 rfl (lv_at hl 0 rfl) ?_
  refine lv_iconst (v := 0) hx hb dX3_init_5 (by decide) ?_
  refine vz_newa (atype := .byte) (ty := .byte) (t0 := 1) (N' := 0) (a0 := (0, .inl (fun _ => 0))) hx hb (hts (.arrayClass .byte) (List.mem_of_getElem? (i := 4) rfl)) rfl rfl hK hP hD hS hA (fun _ => rfl) (by decide) rfl (by decide) (Nat.le_of_ble_eq_true rfl) (Nat.le_of_ble_eq_true rfl) dX3_init_6 (fun q_1 H hP hD hS => ?_)
  have hP : va_P (dC, dI) vwCl [(h0, .inr (3, [.null, .int 0, .int 0, .int 0, .int 0, .int 0, .int 0, .int 0])), (q_1, .inl (cy 1, 0, .inl (fun _ => 0)))] H := hP
  have hD : va_D A [(h0, .inr (3, [.null, .int 0, .int 0, .int 0, .int 0, .int 0, .int 0, .int 0])), (q_1, .inl (cy 1, 0, .inl (fun _ => 0)))] := hD
  refine W.widen (k := 1) (n := 0) (Nat.le_of_ble_eq_true rfl) (Nat.le_of_ble_eq_true rfl) ?_
  refine va_put (D := (dC, dI)) (ci := 3) (v := .ref q_1) (C := RX3) (T := TX3) (N := 8) hx hb hts (fun _ h9 => List.mem_cons_of_mem _ (List.mem_append_right _ h9)) tyX3 tyX3_ok nmX3 hown hK hP hD hS 0 rfl rfl 0 (by decide) (hts (.fieldLink RX3 9 "SeatsRound$Law" "text" "[B") (List.mem_of_getElem? (i := 5) rfl)) (fun _ h9 => h9) rfl (tyX3_ok 0 (by decide)) rfl rfl (Nat.le_of_ble_eq_true rfl) dX3_init_8 (fun H locs hP hD hS => ?_)
  have hP : va_P (dC, dI) vwCl [(h0, .inr (3, [.ref q_1, .int 0, .int 0, .int 0, .int 0, .int 0, .int 0, .int 0])), (q_1, .inl (cy 1, 0, .inl (fun _ => 0)))] H := hP
  have hD : va_D A [(h0, .inr (3, [.ref q_1, .int 0, .int 0, .int 0, .int 0, .int 0, .int 0, .int 0])), (q_1, .inl (cy 1, 0, .inl (fun _ => 0)))] := hD
  have hP := hP.sub (ws' := [(h0, .inr (3, [.ref q_1, .int 0, .int 0, .int 0, .int 0, .int 0, .int 0, .int 0]))]) [0] rfl
  have hD := hD.sub (ws' := [(h0, .inr (3, [.ref q_1, .int 0, .int 0, .int 0, .int 0, .int 0, .int 0, .int 0]))]) [0] (by decide) rfl
  refine lv_aload_n hx hb dX3_init_11 rfl (lv_at hl 0 rfl) ?_
  refine lv_iconst (v := 0) hx hb dX3_init_12 (by decide) ?_
  refine va_put (D := (dC, dI)) (ci := 3) (v := .int 0) (C := RX3) (T := TX3) (N := 8) hx hb hts (fun _ h9 => List.mem_cons_of_mem _ (List.mem_append_right _ h9)) tyX3 tyX3_ok nmX3 hown hK hP hD hS 0 rfl rfl 1 (by decide) (hts (.fieldLink RX3 15 "SeatsRound$Law" "length" "I") (List.mem_of_getElem? (i := 6) rfl)) (fun _ h9 => h9) rfl (tyX3_ok 1 (by decide)) rfl rfl (Nat.le_of_ble_eq_true rfl) dX3_init_13 (fun H locs hP hD hS => ?_)
  have hP : va_P (dC, dI) vwCl [(h0, .inr (3, [.ref q_1, .int 0, .int 0, .int 0, .int 0, .int 0, .int 0, .int 0]))] H := hP
  have hD : va_D A [(h0, .inr (3, [.ref q_1, .int 0, .int 0, .int 0, .int 0, .int 0, .int 0, .int 0]))] := hD
  refine lv_aload_n hx hb dX3_init_16 rfl (lv_at hl 0 rfl) ?_
  refine lv_iconst (v := 0) hx hb dX3_init_17 (by decide) ?_
  refine va_put (D := (dC, dI)) (ci := 3) (v := .int 0) (C := RX3) (T := TX3) (N := 8) hx hb hts (fun _ h9 => List.mem_cons_of_mem _ (List.mem_append_right _ h9)) tyX3 tyX3_ok nmX3 hown hK hP hD hS 0 rfl rfl 2 (by decide) (hts (.fieldLink RX3 19 "SeatsRound$Law" "at" "I") (List.mem_of_getElem? (i := 7) rfl)) (fun _ h9 => h9) rfl (tyX3_ok 2 (by decide)) rfl rfl (Nat.le_of_ble_eq_true rfl) dX3_init_18 (fun H locs hP hD hS => ?_)
  have hP : va_P (dC, dI) vwCl [(h0, .inr (3, [.ref q_1, .int 0, .int 0, .int 0, .int 0, .int 0, .int 0, .int 0]))] H := hP
  have hD : va_D A [(h0, .inr (3, [.ref q_1, .int 0, .int 0, .int 0, .int 0, .int 0, .int 0, .int 0]))] := hD
  refine lv_aload_n hx hb dX3_init_21 rfl (lv_at hl 0 rfl) ?_
  refine lv_iconst (v := (-1)) hx hb dX3_init_22 (by decide) ?_
  refine va_put (D := (dC, dI)) (ci := 3) (v := .int (-1)) (C := RX3) (T := TX3) (N := 8) hx hb hts (fun _ h9 => List.mem_cons_of_mem _ (List.mem_append_right _ h9)) tyX3 tyX3_ok nmX3 hown hK hP hD hS 0 rfl rfl 3 (by decide) (hts (.fieldLink RX3 22 "SeatsRound$Law" "fault" "I") (List.mem_of_getElem? (i := 8) rfl)) (fun _ h9 => h9) rfl (tyX3_ok 3 (by decide)) rfl rfl (Nat.le_of_ble_eq_true rfl) dX3_init_23 (fun H locs hP hD hS => ?_)
  have hP : va_P (dC, dI) vwCl [(h0, .inr (3, [.ref q_1, .int 0, .int 0, .int (-1), .int 0, .int 0, .int 0, .int 0]))] H := hP
  have hD : va_D A [(h0, .inr (3, [.ref q_1, .int 0, .int 0, .int (-1), .int 0, .int 0, .int 0, .int 0]))] := hD
  refine lv_aload_n hx hb dX3_init_26 rfl (lv_at hl 0 rfl) ?_
  refine lv_iconst (v := 0) hx hb dX3_init_27 (by decide) ?_
  refine va_put (D := (dC, dI)) (ci := 3) (v := .int 0) (C := RX3) (T := TX3) (N := 8) hx hb hts (fun _ h9 => List.mem_cons_of_mem _ (List.mem_append_right _ h9)) tyX3 tyX3_ok nmX3 hown hK hP hD hS 0 rfl rfl 4 (by decide) (hts (.fieldLink RX3 25 "SeatsRound$Law" "members" "I") (List.mem_of_getElem? (i := 9) rfl)) (fun _ h9 => h9) rfl (tyX3_ok 4 (by decide)) rfl rfl (Nat.le_of_ble_eq_true rfl) dX3_init_28 (fun H locs hP hD hS => ?_)
  have hP : va_P (dC, dI) vwCl [(h0, .inr (3, [.ref q_1, .int 0, .int 0, .int (-1), .int 0, .int 0, .int 0, .int 0]))] H := hP
  have hD : va_D A [(h0, .inr (3, [.ref q_1, .int 0, .int 0, .int (-1), .int 0, .int 0, .int 0, .int 0]))] := hD
  refine lv_aload_n hx hb dX3_init_31 rfl (lv_at hl 0 rfl) ?_
  refine lv_iconst (v := 0) hx hb dX3_init_32 (by decide) ?_
  refine va_put (D := (dC, dI)) (ci := 3) (v := .int 0) (C := RX3) (T := TX3) (N := 8) hx hb hts (fun _ h9 => List.mem_cons_of_mem _ (List.mem_append_right _ h9)) tyX3 tyX3_ok nmX3 hown hK hP hD hS 0 rfl rfl 5 (by decide) (hts (.fieldLink RX3 28 "SeatsRound$Law" "streetsIn" "I") (List.mem_of_getElem? (i := 10) rfl)) (fun _ h9 => h9) rfl (tyX3_ok 5 (by decide)) rfl rfl (Nat.le_of_ble_eq_true rfl) dX3_init_33 (fun H locs hP hD hS => ?_)
  have hP : va_P (dC, dI) vwCl [(h0, .inr (3, [.ref q_1, .int 0, .int 0, .int (-1), .int 0, .int 0, .int 0, .int 0]))] H := hP
  have hD : va_D A [(h0, .inr (3, [.ref q_1, .int 0, .int 0, .int (-1), .int 0, .int 0, .int 0, .int 0]))] := hD
  refine lv_aload_n hx hb dX3_init_36 rfl (lv_at hl 0 rfl) ?_
  refine lv_iconst (v := 0) hx hb dX3_init_37 (by decide) ?_
  refine va_put (D := (dC, dI)) (ci := 3) (v := .int 0) (C := RX3) (T := TX3) (N := 8) hx hb hts (fun _ h9 => List.mem_cons_of_mem _ (List.mem_append_right _ h9)) tyX3 tyX3_ok nmX3 hown hK hP hD hS 0 rfl rfl 6 (by decide) (hts (.fieldLink RX3 31 "SeatsRound$Law" "weights" "I") (List.mem_of_getElem? (i := 11) rfl)) (fun _ h9 => h9) rfl (tyX3_ok 6 (by decide)) rfl rfl (Nat.le_of_ble_eq_true rfl) dX3_init_38 (fun H locs hP hD hS => ?_)
  have hP : va_P (dC, dI) vwCl [(h0, .inr (3, [.ref q_1, .int 0, .int 0, .int (-1), .int 0, .int 0, .int 0, .int 0]))] H := hP
  have hD : va_D A [(h0, .inr (3, [.ref q_1, .int 0, .int 0, .int (-1), .int 0, .int 0, .int 0, .int 0]))] := hD
  refine lv_aload_n hx hb dX3_init_41 rfl (lv_at hl 0 rfl) ?_
  refine lv_iconst (v := 0) hx hb dX3_init_42 (by decide) ?_
  refine va_put (D := (dC, dI)) (ci := 3) (v := .int 0) (C := RX3) (T := TX3) (N := 8) hx hb hts (fun _ h9 => List.mem_cons_of_mem _ (List.mem_append_right _ h9)) tyX3 tyX3_ok nmX3 hown hK hP hD hS 0 rfl rfl 7 (by decide) (hts (.fieldLink RX3 34 "SeatsRound$Law" "greatest" "I") (List.mem_of_getElem? (i := 12) rfl)) (fun _ h9 => h9) rfl (tyX3_ok 7 (by decide)) rfl rfl (Nat.le_of_ble_eq_true rfl) dX3_init_43 (fun H locs hP hD hS => ?_)
  have hP : va_P (dC, dI) vwCl [(h0, .inr (3, [.ref q_1, .int 0, .int 0, .int (-1), .int 0, .int 0, .int 0, .int 0]))] H := hP
  have hD : va_D A [(h0, .inr (3, [.ref q_1, .int 0, .int 0, .int (-1), .int 0, .int 0, .int 0, .int 0]))] := hD
  have hP9 := hP.sub (ws' := []) [] rfl
  have hD9 := hD.sub (ws' := []) [] (by decide) rfl
  exact W.vret hx hb hr (fun t ht hW => ⟨⟨(fun k => [q_1].getD k 0), rfl, trivial, ⟨by rw [ht]; exact hP9, hD9⟩⟩, hS.F ht⟩) hS.2.2 dX3_init_46
set_option maxHeartbeats 4000000 in
set_option maxRecDepth 100000 in
theorem c_Choice_init (l : Launch) (dC : Nat → ClassId) (dI : Nat → Nat → Nat) (cy : Nat → ClassId) (h0 : Nat) (k0 : Nat) (sz : Nat)  : Met l yX1_init wsX1_init ({ frames := 1, cells := 3, slots := 36, locals := 23 }) (va_Pc [.ref h0, .ref k0] (wPre (dC, dI) cy [(h0, .inr (1, [.null, .null, .int 0, .int 0, .int 0, .int 0, .int 0, .null, .null]))] sz)) (va_Qv (fun (u : Nat → Nat) => True) (fun (u : Nat → Nat) t => wAt (dC, dI) (va_A [(h0, .inr (1, [.null, .null, .int 0, .int 0, .int 0, .int 0, .int 0, .null, .null]))] sz) [] t) (va_A [(h0, .inr (1, [.null, .null, .int 0, .int 0, .int 0, .int 0, .int 0, .null, .null]))] sz)) 3 36 (va_A [(h0, .inr (1, [.null, .null, .int 0, .int 0, .int 0, .int 0, .int 0, .null, .null]))] sz) := by
  refine Met.ofW (cc := cX1_init) (maxL := 2) (ret := none) (by decide) rfl ?_
  intro p e s m args below meth c s₁ B hml hv
  obtain ⟨rfl, hsz, hP, hK, hD0, hN⟩ := hv
  have hx := B.exec
  have hb := B.bytes
  have hr := B.returns
  have hts := atoms_spec (ws := wsX1_init) B.pre
  have hown : s.vm.findClass RX1 = some m.cls := findClass_of_methodNamed B.named
  have hlocks := B.notSynchronized
  subst hsz
  have hin : meth.name = "<init>" := (name_of_methodNamed B.named B.method).1
  have hD := hD0.self (sz := s.heap.size)
  generalize hAe : va_A [(h0, .inr (1, [.null, .null, .int 0, .int 0, .int 0, .int 0, .int 0, .null, .null]))] s.heap.size = A at hD ⊢
  have hA : ∀ q : Nat, s.heap.size ≤ q → A q := fun q h => by rw [← hAe]; exact Or.inr h
  have hS : va_S A s.heap s.heap [] := va_S.rf
  have hl := lv_entry ([.ref h0, .ref k0]) (n := 2) (Nat.le_of_ble_eq_true rfl)
  rw [lg_entry_eq]
  generalize (lg_sl ([.ref h0, .ref k0]) ++ List.replicate (2 - (lg_sl ([.ref h0, .ref k0])).length) Slot.unset).toArray = ls at hl ⊢
  have hl : lv_has ls 2 [(0, .ref h0), (1, .ref k0)] := hl
  refine lv_aload_n hx hb dX1_init_0 rfl (lv_at hl 0 rfl) ?_
  refine W.objInit hx hb hown (hts (.methodLink RX1 3 objectInit) (List.mem_of_getElem? (i := 1) rfl)) (hts (.instanceMethod objectInit) (List.mem_of_getElem? (i := 2) rfl)) (hts (.code objectInit ⟨#[0xb1]⟩ 1 none) (List.mem_of_getElem? (i := 3) rfl)) rfl (hl.1.trans hml.symm) rfl dX1_init_1 (Nat.le_of_ble_eq_true rfl) (Nat.le_of_ble_eq_true rfl) ?_
  refine lv_aload_n hx hb dX1_init_4 rfl (lv_at hl 0 rfl) ?_
  refine lv_bipush (v := 12) hx hb dX1_init_5 (by decide) ?_
  refine vz_newa (atype := .int) (ty := .int) (t0 := 0) (N' := 12) (a0 := (12, .inl (fun _ => 0))) hx hb (hts (.arrayClass .int) (List.mem_of_getElem? (i := 4) rfl)) rfl rfl hK hP hD hS hA (fun _ => rfl) (by decide) rfl (by decide) (Nat.le_of_ble_eq_true rfl) (Nat.le_of_ble_eq_true rfl) dX1_init_7 (fun q_1 H hP hD hS => ?_)
  have hP : va_P (dC, dI) vwCl [(h0, .inr (1, [.null, .null, .int 0, .int 0, .int 0, .int 0, .int 0, .null, .null])), (q_1, .inl (cy 0, 12, .inl (fun _ => 0)))] H := hP
  have hD : va_D A [(h0, .inr (1, [.null, .null, .int 0, .int 0, .int 0, .int 0, .int 0, .null, .null])), (q_1, .inl (cy 0, 12, .inl (fun _ => 0)))] := hD
  refine W.widen (k := 1) (n := 12) (Nat.le_of_ble_eq_true rfl) (Nat.le_of_ble_eq_true rfl) ?_
  refine va_putF (D := (dC, dI)) (ci := 1) (v := .ref q_1) (C := RX1) (T := TX1) (N := 9) hx hb hts (fun _ h9 => List.mem_cons_of_mem _ (List.mem_append_right _ h9)) tyX1 tyX1_ok nmX1 hown hK hP hD hS 0 rfl rfl 0 (by decide) (hts (.fieldLink RX1 9 "SeatsRound$Choice" "picks" "[I") (List.mem_of_getElem? (i := 5) rfl)) (fun _ h9 => h9) rfl hin rfl (tyX1_ok 0 (by decide)) rfl rfl (Nat.le_of_ble_eq_true rfl) dX1_init_9 (fun H locs hP hD hS => ?_)
  have hP : va_P (dC, dI) vwCl [(h0, .inr (1, [.ref q_1, .null, .int 0, .int 0, .int 0, .int 0, .int 0, .null, .null])), (q_1, .inl (cy 0, 12, .inl (fun _ => 0)))] H := hP
  have hD : va_D A [(h0, .inr (1, [.ref q_1, .null, .int 0, .int 0, .int 0, .int 0, .int 0, .null, .null])), (q_1, .inl (cy 0, 12, .inl (fun _ => 0)))] := hD
  have hP := hP.sub (ws' := [(h0, .inr (1, [.ref q_1, .null, .int 0, .int 0, .int 0, .int 0, .int 0, .null, .null]))]) [0] rfl
  have hD := hD.sub (ws' := [(h0, .inr (1, [.ref q_1, .null, .int 0, .int 0, .int 0, .int 0, .int 0, .null, .null]))]) [0] (by decide) rfl
  refine lv_aload_n hx hb dX1_init_12 rfl (lv_at hl 0 rfl) ?_
  refine lv_bipush (v := 12) hx hb dX1_init_13 (by decide) ?_
  refine vz_newa (atype := .int) (ty := .int) (t0 := 0) (N' := 12) (a0 := (12, .inl (fun _ => 0))) hx hb (hts (.arrayClass .int) (List.mem_of_getElem? (i := 4) rfl)) rfl rfl hK hP hD hS hA (fun _ => rfl) (by decide) rfl (by decide) (Nat.le_of_ble_eq_true rfl) (Nat.le_of_ble_eq_true rfl) dX1_init_15 (fun q_2 H hP hD hS => ?_)
  have hP : va_P (dC, dI) vwCl [(h0, .inr (1, [.ref q_1, .null, .int 0, .int 0, .int 0, .int 0, .int 0, .null, .null])), (q_2, .inl (cy 0, 12, .inl (fun _ => 0)))] H := hP
  have hD : va_D A [(h0, .inr (1, [.ref q_1, .null, .int 0, .int 0, .int 0, .int 0, .int 0, .null, .null])), (q_2, .inl (cy 0, 12, .inl (fun _ => 0)))] := hD
  refine W.widen (k := 2) (n := 24) (Nat.le_of_ble_eq_true rfl) (Nat.le_of_ble_eq_true rfl) ?_
  refine va_putF (D := (dC, dI)) (ci := 1) (v := .ref q_2) (C := RX1) (T := TX1) (N := 9) hx hb hts (fun _ h9 => List.mem_cons_of_mem _ (List.mem_append_right _ h9)) tyX1 tyX1_ok nmX1 hown hK hP hD hS 0 rfl rfl 1 (by decide) (hts (.fieldLink RX1 15 "SeatsRound$Choice" "chosen" "[I") (List.mem_of_getElem? (i := 6) rfl)) (fun _ h9 => h9) rfl hin rfl (tyX1_ok 1 (by decide)) rfl rfl (Nat.le_of_ble_eq_true rfl) dX1_init_17 (fun H locs hP hD hS => ?_)
  have hP : va_P (dC, dI) vwCl [(h0, .inr (1, [.ref q_1, .ref q_2, .int 0, .int 0, .int 0, .int 0, .int 0, .null, .null])), (q_2, .inl (cy 0, 12, .inl (fun _ => 0)))] H := hP
  have hD : va_D A [(h0, .inr (1, [.ref q_1, .ref q_2, .int 0, .int 0, .int 0, .int 0, .int 0, .null, .null])), (q_2, .inl (cy 0, 12, .inl (fun _ => 0)))] := hD
  have hP := hP.sub (ws' := [(h0, .inr (1, [.ref q_1, .ref q_2, .int 0, .int 0, .int 0, .int 0, .int 0, .null, .null]))]) [0] rfl
  have hD := hD.sub (ws' := [(h0, .inr (1, [.ref q_1, .ref q_2, .int 0, .int 0, .int 0, .int 0, .int 0, .null, .null]))]) [0] (by decide) rfl
  refine lv_aload_n hx hb dX1_init_20 rfl (lv_at hl 0 rfl) ?_
  refine lv_iconst (v := 0) hx hb dX1_init_21 (by decide) ?_
  refine va_put (D := (dC, dI)) (ci := 1) (v := .int 0) (C := RX1) (T := TX1) (N := 9) hx hb hts (fun _ h9 => List.mem_cons_of_mem _ (List.mem_append_right _ h9)) tyX1 tyX1_ok nmX1 hown hK hP hD hS 0 rfl rfl 2 (by decide) (hts (.fieldLink RX1 18 "SeatsRound$Choice" "pickCount" "I") (List.mem_of_getElem? (i := 7) rfl)) (fun _ h9 => h9) rfl (tyX1_ok 2 (by decide)) rfl rfl (Nat.le_of_ble_eq_true rfl) dX1_init_22 (fun H locs hP hD hS => ?_)
  have hP : va_P (dC, dI) vwCl [(h0, .inr (1, [.ref q_1, .ref q_2, .int 0, .int 0, .int 0, .int 0, .int 0, .null, .null]))] H := hP
  have hD : va_D A [(h0, .inr (1, [.ref q_1, .ref q_2, .int 0, .int 0, .int 0, .int 0, .int 0, .null, .null]))] := hD
  refine lv_aload_n hx hb dX1_init_25 rfl (lv_at hl 0 rfl) ?_
  refine lv_iconst (v := 0) hx hb dX1_init_26 (by decide) ?_
  refine va_put (D := (dC, dI)) (ci := 1) (v := .int 0) (C := RX1) (T := TX1) (N := 9) hx hb hts (fun _ h9 => List.mem_cons_of_mem _ (List.mem_append_right _ h9)) tyX1 tyX1_ok nmX1 hown hK hP hD hS 0 rfl rfl 3 (by decide) (hts (.fieldLink RX1 22 "SeatsRound$Choice" "chosenCount" "I") (List.mem_of_getElem? (i := 8) rfl)) (fun _ h9 => h9) rfl (tyX1_ok 3 (by decide)) rfl rfl (Nat.le_of_ble_eq_true rfl) dX1_init_27 (fun H locs hP hD hS => ?_)
  have hP : va_P (dC, dI) vwCl [(h0, .inr (1, [.ref q_1, .ref q_2, .int 0, .int 0, .int 0, .int 0, .int 0, .null, .null]))] H := hP
  have hD : va_D A [(h0, .inr (1, [.ref q_1, .ref q_2, .int 0, .int 0, .int 0, .int 0, .int 0, .null, .null]))] := hD
  refine lv_aload_n hx hb dX1_init_30 rfl (lv_at hl 0 rfl) ?_
  refine lv_iconst (v := 0) hx hb dX1_init_31 (by decide) ?_
  refine va_put (D := (dC, dI)) (ci := 1) (v := .int 0) (C := RX1) (T := TX1) (N := 9) hx hb hts (fun _ h9 => List.mem_cons_of_mem _ (List.mem_append_right _ h9)) tyX1 tyX1_ok nmX1 hown hK hP hD hS 0 rfl rfl 4 (by decide) (hts (.fieldLink RX1 25 "SeatsRound$Choice" "chosenBits" "I") (List.mem_of_getElem? (i := 9) rfl)) (fun _ h9 => h9) rfl (tyX1_ok 4 (by decide)) rfl rfl (Nat.le_of_ble_eq_true rfl) dX1_init_32 (fun H locs hP hD hS => ?_)
  have hP : va_P (dC, dI) vwCl [(h0, .inr (1, [.ref q_1, .ref q_2, .int 0, .int 0, .int 0, .int 0, .int 0, .null, .null]))] H := hP
  have hD : va_D A [(h0, .inr (1, [.ref q_1, .ref q_2, .int 0, .int 0, .int 0, .int 0, .int 0, .null, .null]))] := hD
  refine lv_aload_n hx hb dX1_init_35 rfl (lv_at hl 0 rfl) ?_
  refine lv_iconst (v := 0) hx hb dX1_init_36 (by decide) ?_
  refine va_put (D := (dC, dI)) (ci := 1) (v := .int 0) (C := RX1) (T := TX1) (N := 9) hx hb hts (fun _ h9 => List.mem_cons_of_mem _ (List.mem_append_right _ h9)) tyX1 tyX1_ok nmX1 hown hK hP hD hS 0 rfl rfl 5 (by decide) (hts (.fieldLink RX1 28 "SeatsRound$Choice" "streetBits" "I") (List.mem_of_getElem? (i := 10) rfl)) (fun _ h9 => h9) rfl (tyX1_ok 5 (by decide)) rfl rfl (Nat.le_of_ble_eq_true rfl) dX1_init_37 (fun H locs hP hD hS => ?_)
  have hP : va_P (dC, dI) vwCl [(h0, .inr (1, [.ref q_1, .ref q_2, .int 0, .int 0, .int 0, .int 0, .int 0, .null, .null]))] H := hP
  have hD : va_D A [(h0, .inr (1, [.ref q_1, .ref q_2, .int 0, .int 0, .int 0, .int 0, .int 0, .null, .null]))] := hD
  refine lv_aload_n hx hb dX1_init_40 rfl (lv_at hl 0 rfl) ?_
  refine lv_iconst (v := 0) hx hb dX1_init_41 (by decide) ?_
  refine va_put (D := (dC, dI)) (ci := 1) (v := .int 0) (C := RX1) (T := TX1) (N := 9) hx hb hts (fun _ h9 => List.mem_cons_of_mem _ (List.mem_append_right _ h9)) tyX1 tyX1_ok nmX1 hown hK hP hD hS 0 rfl rfl 6 (by decide) (hts (.fieldLink RX1 31 "SeatsRound$Choice" "pickBits" "I") (List.mem_of_getElem? (i := 11) rfl)) (fun _ h9 => h9) rfl (tyX1_ok 6 (by decide)) rfl rfl (Nat.le_of_ble_eq_true rfl) dX1_init_42 (fun H locs hP hD hS => ?_)
  have hP : va_P (dC, dI) vwCl [(h0, .inr (1, [.ref q_1, .ref q_2, .int 0, .int 0, .int 0, .int 0, .int 0, .null, .null]))] H := hP
  have hD : va_D A [(h0, .inr (1, [.ref q_1, .ref q_2, .int 0, .int 0, .int 0, .int 0, .int 0, .null, .null]))] := hD
  refine lv_aload_n hx hb dX1_init_45 rfl (lv_at hl 0 rfl) ?_
  refine lv_bipush (v := 12) hx hb dX1_init_46 (by decide) ?_
  refine vz_newa (atype := .int) (ty := .int) (t0 := 0) (N' := 12) (a0 := (12, .inl (fun _ => 0))) hx hb (hts (.arrayClass .int) (List.mem_of_getElem? (i := 4) rfl)) rfl rfl hK hP hD hS hA (fun _ => rfl) (by decide) rfl (by decide) (Nat.le_of_ble_eq_true rfl) (Nat.le_of_ble_eq_true rfl) dX1_init_48 (fun q_3 H hP hD hS => ?_)
  have hP : va_P (dC, dI) vwCl [(h0, .inr (1, [.ref q_1, .ref q_2, .int 0, .int 0, .int 0, .int 0, .int 0, .null, .null])), (q_3, .inl (cy 0, 12, .inl (fun _ => 0)))] H := hP
  have hD : va_D A [(h0, .inr (1, [.ref q_1, .ref q_2, .int 0, .int 0, .int 0, .int 0, .int 0, .null, .null])), (q_3, .inl (cy 0, 12, .inl (fun _ => 0)))] := hD
  refine W.widen (k := 3) (n := 36) (Nat.le_of_ble_eq_true rfl) (Nat.le_of_ble_eq_true rfl) ?_
  refine va_putF (D := (dC, dI)) (ci := 1) (v := .ref q_3) (C := RX1) (T := TX1) (N := 9) hx hb hts (fun _ h9 => List.mem_cons_of_mem _ (List.mem_append_right _ h9)) tyX1 tyX1_ok nmX1 hown hK hP hD hS 0 rfl rfl 7 (by decide) (hts (.fieldLink RX1 34 "SeatsRound$Choice" "sums" "[I") (List.mem_of_getElem? (i := 12) rfl)) (fun _ h9 => h9) rfl hin rfl (tyX1_ok 7 (by decide)) rfl rfl (Nat.le_of_ble_eq_true rfl) dX1_init_50 (fun H locs hP hD hS => ?_)
  have hP : va_P (dC, dI) vwCl [(h0, .inr (1, [.ref q_1, .ref q_2, .int 0, .int 0, .int 0, .int 0, .int 0, .ref q_3, .null])), (q_3, .inl (cy 0, 12, .inl (fun _ => 0)))] H := hP
  have hD : va_D A [(h0, .inr (1, [.ref q_1, .ref q_2, .int 0, .int 0, .int 0, .int 0, .int 0, .ref q_3, .null])), (q_3, .inl (cy 0, 12, .inl (fun _ => 0)))] := hD
  have hP := hP.sub (ws' := [(h0, .inr (1, [.ref q_1, .ref q_2, .int 0, .int 0, .int 0, .int 0, .int 0, .ref q_3, .null]))]) [0] rfl
  have hD := hD.sub (ws' := [(h0, .inr (1, [.ref q_1, .ref q_2, .int 0, .int 0, .int 0, .int 0, .int 0, .ref q_3, .null]))]) [0] (by decide) rfl
  refine lv_aload_n hx hb dX1_init_53 rfl (lv_at hl 0 rfl) ?_
  refine lv_aload_n hx hb dX1_init_54 rfl (lv_at hl 1 rfl) ?_
  refine va_putF (D := (dC, dI)) (ci := 1) (v := .ref k0) (C := RX1) (T := TX1) (N := 9) hx hb hts (fun _ h9 => List.mem_cons_of_mem _ (List.mem_append_right _ h9)) tyX1 tyX1_ok nmX1 hown hK hP hD hS 0 rfl rfl 8 (by decide) (hts (.fieldLink RX1 37 "SeatsRound$Choice" "keepers" "LSeatsRound$Keepers;") (List.mem_of_getElem? (i := 13) rfl)) (fun _ h9 => h9) rfl hin rfl (tyX1_ok 8 (by decide)) rfl rfl (Nat.le_of_ble_eq_true rfl) dX1_init_55 (fun H locs hP hD hS => ?_)
  have hP : va_P (dC, dI) vwCl [(h0, .inr (1, [.ref q_1, .ref q_2, .int 0, .int 0, .int 0, .int 0, .int 0, .ref q_3, .ref k0]))] H := hP
  have hD : va_D A [(h0, .inr (1, [.ref q_1, .ref q_2, .int 0, .int 0, .int 0, .int 0, .int 0, .ref q_3, .ref k0]))] := hD
  have hP9 := hP.sub (ws' := []) [] rfl
  have hD9 := hD.sub (ws' := []) [] (by decide) rfl
  exact W.vret hx hb hr (fun t ht hW => ⟨⟨(fun k => [q_1, q_2, q_3].getD k 0), rfl, trivial, ⟨by rw [ht]; exact hP9, hD9⟩⟩, hS.F ht⟩) hS.2.2 dX1_init_58
set_option maxHeartbeats 4000000 in
set_option maxRecDepth 100000 in
theorem c_Table_init (l : Launch) (dC : Nat → ClassId) (dI : Nat → Nat → Nat) (cy : Nat → ClassId) (h0 : Nat) (sz : Nat)  : Met l yX8_init wsX8_init ({ frames := 1, cells := 5, slots := 2104, locals := 23 }) (va_Pc [.ref h0] (wPre (dC, dI) cy [(h0, .inr (8, [.int 0, .int 0, .int 0, .int 0, .int 0, .int 0, .int 0, .int 0, .null, .null, .null, .null, .null]))] sz)) (va_Qv (fun (u : Nat → Nat) => True) (fun (u : Nat → Nat) t => wAt (dC, dI) (va_A [(h0, .inr (8, [.int 0, .int 0, .int 0, .int 0, .int 0, .int 0, .int 0, .int 0, .null, .null, .null, .null, .null]))] sz) [] t) (va_A [(h0, .inr (8, [.int 0, .int 0, .int 0, .int 0, .int 0, .int 0, .int 0, .int 0, .null, .null, .null, .null, .null]))] sz)) 5 2104 (va_A [(h0, .inr (8, [.int 0, .int 0, .int 0, .int 0, .int 0, .int 0, .int 0, .int 0, .null, .null, .null, .null, .null]))] sz) := by
  refine Met.ofW (cc := cX8_init) (maxL := 1) (ret := none) (by decide) rfl ?_
  intro p e s m args below meth c s₁ B hml hv
  obtain ⟨rfl, hsz, hP, hK, hD0, hN⟩ := hv
  have hx := B.exec
  have hb := B.bytes
  have hr := B.returns
  have hts := atoms_spec (ws := wsX8_init) B.pre
  have hown : s.vm.findClass RX8 = some m.cls := findClass_of_methodNamed B.named
  have hlocks := B.notSynchronized
  subst hsz
  have hin : meth.name = "<init>" := (name_of_methodNamed B.named B.method).1
  have hD := hD0.self (sz := s.heap.size)
  generalize hAe : va_A [(h0, .inr (8, [.int 0, .int 0, .int 0, .int 0, .int 0, .int 0, .int 0, .int 0, .null, .null, .null, .null, .null]))] s.heap.size = A at hD ⊢
  have hA : ∀ q : Nat, s.heap.size ≤ q → A q := fun q h => by rw [← hAe]; exact Or.inr h
  have hS : va_S A s.heap s.heap [] := va_S.rf
  have hl := lv_entry ([.ref h0]) (n := 1) (Nat.le_of_ble_eq_true rfl)
  rw [lg_entry_eq]
  generalize (lg_sl ([.ref h0]) ++ List.replicate (1 - (lg_sl ([.ref h0])).length) Slot.unset).toArray = ls at hl ⊢
  have hl : lv_has ls 1 [(0, .ref h0)] := hl
  refine lv_aload_n hx hb dX8_init_0 rfl (lv_at hl 0 rfl) ?_
  refine W.objInit hx hb hown (hts (.methodLink RX8 3 objectInit) (List.mem_of_getElem? (i := 1) rfl)) (hts (.instanceMethod objectInit) (List.mem_of_getElem? (i := 2) rfl)) (hts (.code objectInit ⟨#[0xb1]⟩ 1 none) (List.mem_of_getElem? (i := 3) rfl)) rfl (hl.1.trans hml.symm) rfl dX8_init_1 (Nat.le_of_ble_eq_true rfl) (Nat.le_of_ble_eq_true rfl) ?_
  refine lv_aload_n hx hb dX8_init_4 rfl (lv_at hl 0 rfl) ?_
  refine lv_iconst (v := 0) hx hb dX8_init_5 (by decide) ?_
  refine va_put (D := (dC, dI)) (ci := 8) (v := .int 0) (C := RX8) (T := TX8) (N := 13) hx hb hts (fun _ h9 => List.mem_cons_of_mem _ (List.mem_append_right _ h9)) tyX8 tyX8_ok nmX8 hown hK hP hD hS 0 rfl rfl 0 (by decide) (hts (.fieldLink RX8 9 "SeatsRound$Table" "members" "I") (List.mem_of_getElem? (i := 4) rfl)) (fun _ h9 => h9) rfl (tyX8_ok 0 (by decide)) rfl rfl (Nat.le_of_ble_eq_true rfl) dX8_init_6 (fun H locs hP hD hS => ?_)
  have hP : va_P (dC, dI) vwCl [(h0, .inr (8, [.int 0, .int 0, .int 0, .int 0, .int 0, .int 0, .int 0, .int 0, .null, .null, .null, .null, .null]))] H := hP
  have hD : va_D A [(h0, .inr (8, [.int 0, .int 0, .int 0, .int 0, .int 0, .int 0, .int 0, .int 0, .null, .null, .null, .null, .null]))] := hD
  refine lv_aload_n hx hb dX8_init_9 rfl (lv_at hl 0 rfl) ?_
  refine lv_iconst (v := 0) hx hb dX8_init_10 (by decide) ?_
  refine va_put (D := (dC, dI)) (ci := 8) (v := .int 0) (C := RX8) (T := TX8) (N := 13) hx hb hts (fun _ h9 => List.mem_cons_of_mem _ (List.mem_append_right _ h9)) tyX8 tyX8_ok nmX8 hown hK hP hD hS 0 rfl rfl 1 (by decide) (hts (.fieldLink RX8 15 "SeatsRound$Table" "turn" "I") (List.mem_of_getElem? (i := 5) rfl)) (fun _ h9 => h9) rfl (tyX8_ok 1 (by decide)) rfl rfl (Nat.le_of_ble_eq_true rfl) dX8_init_11 (fun H locs hP hD hS => ?_)
  have hP : va_P (dC, dI) vwCl [(h0, .inr (8, [.int 0, .int 0, .int 0, .int 0, .int 0, .int 0, .int 0, .int 0, .null, .null, .null, .null, .null]))] H := hP
  have hD : va_D A [(h0, .inr (8, [.int 0, .int 0, .int 0, .int 0, .int 0, .int 0, .int 0, .int 0, .null, .null, .null, .null, .null]))] := hD
  refine lv_aload_n hx hb dX8_init_14 rfl (lv_at hl 0 rfl) ?_
  refine lv_iconst (v := 1) hx hb dX8_init_15 (by decide) ?_
  refine va_put (D := (dC, dI)) (ci := 8) (v := .int 1) (C := RX8) (T := TX8) (N := 13) hx hb hts (fun _ h9 => List.mem_cons_of_mem _ (List.mem_append_right _ h9)) tyX8 tyX8_ok nmX8 hown hK hP hD hS 0 rfl rfl 2 (by decide) (hts (.fieldLink RX8 18 "SeatsRound$Table" "copies" "I") (List.mem_of_getElem? (i := 6) rfl)) (fun _ h9 => h9) rfl (tyX8_ok 2 (by decide)) rfl rfl (Nat.le_of_ble_eq_true rfl) dX8_init_16 (fun H locs hP hD hS => ?_)
  have hP : va_P (dC, dI) vwCl [(h0, .inr (8, [.int 0, .int 0, .int 1, .int 0, .int 0, .int 0, .int 0, .int 0, .null, .null, .null, .null, .null]))] H := hP
  have hD : va_D A [(h0, .inr (8, [.int 0, .int 0, .int 1, .int 0, .int 0, .int 0, .int 0, .int 0, .null, .null, .null, .null, .null]))] := hD
  refine lv_aload_n hx hb dX8_init_19 rfl (lv_at hl 0 rfl) ?_
  refine lv_iconst (v := 1) hx hb dX8_init_20 (by decide) ?_
  refine va_put (D := (dC, dI)) (ci := 8) (v := .int 1) (C := RX8) (T := TX8) (N := 13) hx hb hts (fun _ h9 => List.mem_cons_of_mem _ (List.mem_append_right _ h9)) tyX8 tyX8_ok nmX8 hown hK hP hD hS 0 rfl rfl 3 (by decide) (hts (.fieldLink RX8 21 "SeatsRound$Table" "streets" "I") (List.mem_of_getElem? (i := 7) rfl)) (fun _ h9 => h9) rfl (tyX8_ok 3 (by decide)) rfl rfl (Nat.le_of_ble_eq_true rfl) dX8_init_21 (fun H locs hP hD hS => ?_)
  have hP : va_P (dC, dI) vwCl [(h0, .inr (8, [.int 0, .int 0, .int 1, .int 1, .int 0, .int 0, .int 0, .int 0, .null, .null, .null, .null, .null]))] H := hP
  have hD : va_D A [(h0, .inr (8, [.int 0, .int 0, .int 1, .int 1, .int 0, .int 0, .int 0, .int 0, .null, .null, .null, .null, .null]))] := hD
  refine lv_aload_n hx hb dX8_init_24 rfl (lv_at hl 0 rfl) ?_
  refine lv_iconst (v := 0) hx hb dX8_init_25 (by decide) ?_
  refine va_put (D := (dC, dI)) (ci := 8) (v := .int 0) (C := RX8) (T := TX8) (N := 13) hx hb hts (fun _ h9 => List.mem_cons_of_mem _ (List.mem_append_right _ h9)) tyX8 tyX8_ok nmX8 hown hK hP hD hS 0 rfl rfl 4 (by decide) (hts (.fieldLink RX8 24 "SeatsRound$Table" "way" "I") (List.mem_of_getElem? (i := 8) rfl)) (fun _ h9 => h9) rfl (tyX8_ok 4 (by decide)) rfl rfl (Nat.le_of_ble_eq_true rfl) dX8_init_26 (fun H locs hP hD hS => ?_)
  have hP : va_P (dC, dI) vwCl [(h0, .inr (8, [.int 0, .int 0, .int 1, .int 1, .int 0, .int 0, .int 0, .int 0, .null, .null, .null, .null, .null]))] H := hP
  have hD : va_D A [(h0, .inr (8, [.int 0, .int 0, .int 1, .int 1, .int 0, .int 0, .int 0, .int 0, .null, .null, .null, .null, .null]))] := hD
  refine lv_aload_n hx hb dX8_init_29 rfl (lv_at hl 0 rfl) ?_
  refine lv_iconst (v := 0) hx hb dX8_init_30 (by decide) ?_
  refine va_put (D := (dC, dI)) (ci := 8) (v := .int 0) (C := RX8) (T := TX8) (N := 13) hx hb hts (fun _ h9 => List.mem_cons_of_mem _ (List.mem_append_right _ h9)) tyX8 tyX8_ok nmX8 hown hK hP hD hS 0 rfl rfl 5 (by decide) (hts (.fieldLink RX8 27 "SeatsRound$Table" "seats" "I") (List.mem_of_getElem? (i := 9) rfl)) (fun _ h9 => h9) rfl (tyX8_ok 5 (by decide)) rfl rfl (Nat.le_of_ble_eq_true rfl) dX8_init_31 (fun H locs hP hD hS => ?_)
  have hP : va_P (dC, dI) vwCl [(h0, .inr (8, [.int 0, .int 0, .int 1, .int 1, .int 0, .int 0, .int 0, .int 0, .null, .null, .null, .null, .null]))] H := hP
  have hD : va_D A [(h0, .inr (8, [.int 0, .int 0, .int 1, .int 1, .int 0, .int 0, .int 0, .int 0, .null, .null, .null, .null, .null]))] := hD
  refine lv_aload_n hx hb dX8_init_34 rfl (lv_at hl 0 rfl) ?_
  refine lv_iconst (v := 0) hx hb dX8_init_35 (by decide) ?_
  refine va_put (D := (dC, dI)) (ci := 8) (v := .int 0) (C := RX8) (T := TX8) (N := 13) hx hb hts (fun _ h9 => List.mem_cons_of_mem _ (List.mem_append_right _ h9)) tyX8 tyX8_ok nmX8 hown hK hP hD hS 0 rfl rfl 6 (by decide) (hts (.fieldLink RX8 30 "SeatsRound$Table" "lawLength" "I") (List.mem_of_getElem? (i := 10) rfl)) (fun _ h9 => h9) rfl (tyX8_ok 6 (by decide)) rfl rfl (Nat.le_of_ble_eq_true rfl) dX8_init_36 (fun H locs hP hD hS => ?_)
  have hP : va_P (dC, dI) vwCl [(h0, .inr (8, [.int 0, .int 0, .int 1, .int 1, .int 0, .int 0, .int 0, .int 0, .null, .null, .null, .null, .null]))] H := hP
  have hD : va_D A [(h0, .inr (8, [.int 0, .int 0, .int 1, .int 1, .int 0, .int 0, .int 0, .int 0, .null, .null, .null, .null, .null]))] := hD
  refine lv_aload_n hx hb dX8_init_39 rfl (lv_at hl 0 rfl) ?_
  refine lv_iconst (v := 0) hx hb dX8_init_40 (by decide) ?_
  refine va_put (D := (dC, dI)) (ci := 8) (v := .int 0) (C := RX8) (T := TX8) (N := 13) hx hb hts (fun _ h9 => List.mem_cons_of_mem _ (List.mem_append_right _ h9)) tyX8 tyX8_ok nmX8 hown hK hP hD hS 0 rfl rfl 7 (by decide) (hts (.fieldLink RX8 33 "SeatsRound$Table" "oddsCounted" "Z") (List.mem_of_getElem? (i := 11) rfl)) (fun _ h9 => h9) rfl (tyX8_ok 7 (by decide)) rfl rfl (Nat.le_of_ble_eq_true rfl) dX8_init_41 (fun H locs hP hD hS => ?_)
  have hP : va_P (dC, dI) vwCl [(h0, .inr (8, [.int 0, .int 0, .int 1, .int 1, .int 0, .int 0, .int 0, .int 0, .null, .null, .null, .null, .null]))] H := hP
  have hD : va_D A [(h0, .inr (8, [.int 0, .int 0, .int 1, .int 1, .int 0, .int 0, .int 0, .int 0, .null, .null, .null, .null, .null]))] := hD
  refine lv_aload_n hx hb dX8_init_44 rfl (lv_at hl 0 rfl) ?_
  refine lv_bipush (v := 12) hx hb dX8_init_45 (by decide) ?_
  refine vz_newa (atype := .int) (ty := .int) (t0 := 0) (N' := 12) (a0 := (12, .inl (fun _ => 0))) hx hb (hts (.arrayClass .int) (List.mem_of_getElem? (i := 12) rfl)) rfl rfl hK hP hD hS hA (fun _ => rfl) (by decide) rfl (by decide) (Nat.le_of_ble_eq_true rfl) (Nat.le_of_ble_eq_true rfl) dX8_init_47 (fun q_1 H hP hD hS => ?_)
  have hP : va_P (dC, dI) vwCl [(h0, .inr (8, [.int 0, .int 0, .int 1, .int 1, .int 0, .int 0, .int 0, .int 0, .null, .null, .null, .null, .null])), (q_1, .inl (cy 0, 12, .inl (fun _ => 0)))] H := hP
  have hD : va_D A [(h0, .inr (8, [.int 0, .int 0, .int 1, .int 1, .int 0, .int 0, .int 0, .int 0, .null, .null, .null, .null, .null])), (q_1, .inl (cy 0, 12, .inl (fun _ => 0)))] := hD
  refine W.widen (k := 1) (n := 12) (Nat.le_of_ble_eq_true rfl) (Nat.le_of_ble_eq_true rfl) ?_
  refine va_putF (D := (dC, dI)) (ci := 8) (v := .ref q_1) (C := RX8) (T := TX8) (N := 13) hx hb hts (fun _ h9 => List.mem_cons_of_mem _ (List.mem_append_right _ h9)) tyX8 tyX8_ok nmX8 hown hK hP hD hS 0 rfl rfl 8 (by decide) (hts (.fieldLink RX8 37 "SeatsRound$Table" "weight" "[I") (List.mem_of_getElem? (i := 13) rfl)) (fun _ h9 => h9) rfl hin rfl (tyX8_ok 8 (by decide)) rfl rfl (Nat.le_of_ble_eq_true rfl) dX8_init_49 (fun H locs hP hD hS => ?_)
  have hP : va_P (dC, dI) vwCl [(h0, .inr (8, [.int 0, .int 0, .int 1, .int 1, .int 0, .int 0, .int 0, .int 0, .ref q_1, .null, .null, .null, .null])), (q_1, .inl (cy 0, 12, .inl (fun _ => 0)))] H := hP
  have hD : va_D A [(h0, .inr (8, [.int 0, .int 0, .int 1, .int 1, .int 0, .int 0, .int 0, .int 0, .ref q_1, .null, .null, .null, .null])), (q_1, .inl (cy 0, 12, .inl (fun _ => 0)))] := hD
  have hP := hP.sub (ws' := [(h0, .inr (8, [.int 0, .int 0, .int 1, .int 1, .int 0, .int 0, .int 0, .int 0, .ref q_1, .null, .null, .null, .null]))]) [0] rfl
  have hD := hD.sub (ws' := [(h0, .inr (8, [.int 0, .int 0, .int 1, .int 1, .int 0, .int 0, .int 0, .int 0, .ref q_1, .null, .null, .null, .null]))]) [0] (by decide) rfl
  refine lv_aload_n hx hb dX8_init_52 rfl (lv_at hl 0 rfl) ?_
  refine lv_bipush (v := 12) hx hb dX8_init_53 (by decide) ?_
  refine vz_newa (atype := .int) (ty := .int) (t0 := 0) (N' := 12) (a0 := (12, .inl (fun _ => 0))) hx hb (hts (.arrayClass .int) (List.mem_of_getElem? (i := 12) rfl)) rfl rfl hK hP hD hS hA (fun _ => rfl) (by decide) rfl (by decide) (Nat.le_of_ble_eq_true rfl) (Nat.le_of_ble_eq_true rfl) dX8_init_55 (fun q_2 H hP hD hS => ?_)
  have hP : va_P (dC, dI) vwCl [(h0, .inr (8, [.int 0, .int 0, .int 1, .int 1, .int 0, .int 0, .int 0, .int 0, .ref q_1, .null, .null, .null, .null])), (q_2, .inl (cy 0, 12, .inl (fun _ => 0)))] H := hP
  have hD : va_D A [(h0, .inr (8, [.int 0, .int 0, .int 1, .int 1, .int 0, .int 0, .int 0, .int 0, .ref q_1, .null, .null, .null, .null])), (q_2, .inl (cy 0, 12, .inl (fun _ => 0)))] := hD
  refine W.widen (k := 2) (n := 24) (Nat.le_of_ble_eq_true rfl) (Nat.le_of_ble_eq_true rfl) ?_
  refine va_putF (D := (dC, dI)) (ci := 8) (v := .ref q_2) (C := RX8) (T := TX8) (N := 13) hx hb hts (fun _ h9 => List.mem_cons_of_mem _ (List.mem_append_right _ h9)) tyX8 tyX8_ok nmX8 hown hK hP hD hS 0 rfl rfl 9 (by decide) (hts (.fieldLink RX8 41 "SeatsRound$Table" "odds" "[I") (List.mem_of_getElem? (i := 14) rfl)) (fun _ h9 => h9) rfl hin rfl (tyX8_ok 9 (by decide)) rfl rfl (Nat.le_of_ble_eq_true rfl) dX8_init_57 (fun H locs hP hD hS => ?_)
  have hP : va_P (dC, dI) vwCl [(h0, .inr (8, [.int 0, .int 0, .int 1, .int 1, .int 0, .int 0, .int 0, .int 0, .ref q_1, .ref q_2, .null, .null, .null])), (q_2, .inl (cy 0, 12, .inl (fun _ => 0)))] H := hP
  have hD : va_D A [(h0, .inr (8, [.int 0, .int 0, .int 1, .int 1, .int 0, .int 0, .int 0, .int 0, .ref q_1, .ref q_2, .null, .null, .null])), (q_2, .inl (cy 0, 12, .inl (fun _ => 0)))] := hD
  have hP := hP.sub (ws' := [(h0, .inr (8, [.int 0, .int 0, .int 1, .int 1, .int 0, .int 0, .int 0, .int 0, .ref q_1, .ref q_2, .null, .null, .null]))]) [0] rfl
  have hD := hD.sub (ws' := [(h0, .inr (8, [.int 0, .int 0, .int 1, .int 1, .int 0, .int 0, .int 0, .int 0, .ref q_1, .ref q_2, .null, .null, .null]))]) [0] (by decide) rfl
  refine lv_aload_n hx hb dX8_init_60 rfl (lv_at hl 0 rfl) ?_
  refine lv_bipush (v := 80) hx hb dX8_init_61 (by decide) ?_
  refine vz_newa (atype := .byte) (ty := .byte) (t0 := 1) (N' := 80) (a0 := (80, .inl (fun _ => 0))) hx hb (hts (.arrayClass .byte) (List.mem_of_getElem? (i := 15) rfl)) rfl rfl hK hP hD hS hA (fun _ => rfl) (by decide) rfl (by decide) (Nat.le_of_ble_eq_true rfl) (Nat.le_of_ble_eq_true rfl) dX8_init_63 (fun q_3 H hP hD hS => ?_)
  have hP : va_P (dC, dI) vwCl [(h0, .inr (8, [.int 0, .int 0, .int 1, .int 1, .int 0, .int 0, .int 0, .int 0, .ref q_1, .ref q_2, .null, .null, .null])), (q_3, .inl (cy 1, 80, .inl (fun _ => 0)))] H := hP
  have hD : va_D A [(h0, .inr (8, [.int 0, .int 0, .int 1, .int 1, .int 0, .int 0, .int 0, .int 0, .ref q_1, .ref q_2, .null, .null, .null])), (q_3, .inl (cy 1, 80, .inl (fun _ => 0)))] := hD
  refine W.widen (k := 3) (n := 104) (Nat.le_of_ble_eq_true rfl) (Nat.le_of_ble_eq_true rfl) ?_
  refine va_putF (D := (dC, dI)) (ci := 8) (v := .ref q_3) (C := RX8) (T := TX8) (N := 13) hx hb hts (fun _ h9 => List.mem_cons_of_mem _ (List.mem_append_right _ h9)) tyX8 tyX8_ok nmX8 hown hK hP hD hS 0 rfl rfl 10 (by decide) (hts (.fieldLink RX8 44 "SeatsRound$Table" "law" "[B") (List.mem_of_getElem? (i := 16) rfl)) (fun _ h9 => h9) rfl hin rfl (tyX8_ok 10 (by decide)) rfl rfl (Nat.le_of_ble_eq_true rfl) dX8_init_65 (fun H locs hP hD hS => ?_)
  have hP : va_P (dC, dI) vwCl [(h0, .inr (8, [.int 0, .int 0, .int 1, .int 1, .int 0, .int 0, .int 0, .int 0, .ref q_1, .ref q_2, .ref q_3, .null, .null])), (q_3, .inl (cy 1, 80, .inl (fun _ => 0)))] H := hP
  have hD : va_D A [(h0, .inr (8, [.int 0, .int 0, .int 1, .int 1, .int 0, .int 0, .int 0, .int 0, .ref q_1, .ref q_2, .ref q_3, .null, .null])), (q_3, .inl (cy 1, 80, .inl (fun _ => 0)))] := hD
  have hP := hP.sub (ws' := [(h0, .inr (8, [.int 0, .int 0, .int 1, .int 1, .int 0, .int 0, .int 0, .int 0, .ref q_1, .ref q_2, .ref q_3, .null, .null]))]) [0] rfl
  have hD := hD.sub (ws' := [(h0, .inr (8, [.int 0, .int 0, .int 1, .int 1, .int 0, .int 0, .int 0, .int 0, .ref q_1, .ref q_2, .ref q_3, .null, .null]))]) [0] (by decide) rfl
  refine lv_aload_n hx hb dX8_init_68 rfl (lv_at hl 0 rfl) ?_
  refine lv_sipush (v := 1000) hx hb dX8_init_69 (by decide) ?_
  refine vz_newa (atype := .byte) (ty := .byte) (t0 := 1) (N' := 1000) (a0 := (1000, .inl (fun _ => 0))) hx hb (hts (.arrayClass .byte) (List.mem_of_getElem? (i := 15) rfl)) rfl rfl hK hP hD hS hA (fun _ => rfl) (by decide) rfl (by decide) (Nat.le_of_ble_eq_true rfl) (Nat.le_of_ble_eq_true rfl) dX8_init_72 (fun q_4 H hP hD hS => ?_)
  have hP : va_P (dC, dI) vwCl [(h0, .inr (8, [.int 0, .int 0, .int 1, .int 1, .int 0, .int 0, .int 0, .int 0, .ref q_1, .ref q_2, .ref q_3, .null, .null])), (q_4, .inl (cy 1, 1000, .inl (fun _ => 0)))] H := hP
  have hD : va_D A [(h0, .inr (8, [.int 0, .int 0, .int 1, .int 1, .int 0, .int 0, .int 0, .int 0, .ref q_1, .ref q_2, .ref q_3, .null, .null])), (q_4, .inl (cy 1, 1000, .inl (fun _ => 0)))] := hD
  refine W.widen (k := 4) (n := 1104) (Nat.le_of_ble_eq_true rfl) (Nat.le_of_ble_eq_true rfl) ?_
  refine va_putF (D := (dC, dI)) (ci := 8) (v := .ref q_4) (C := RX8) (T := TX8) (N := 13) hx hb hts (fun _ h9 => List.mem_cons_of_mem _ (List.mem_append_right _ h9)) tyX8 tyX8_ok nmX8 hown hK hP hD hS 0 rfl rfl 11 (by decide) (hts (.fieldLink RX8 48 "SeatsRound$Table" "owner" "[B") (List.mem_of_getElem? (i := 17) rfl)) (fun _ h9 => h9) rfl hin rfl (tyX8_ok 11 (by decide)) rfl rfl (Nat.le_of_ble_eq_true rfl) dX8_init_74 (fun H locs hP hD hS => ?_)
  have hP : va_P (dC, dI) vwCl [(h0, .inr (8, [.int 0, .int 0, .int 1, .int 1, .int 0, .int 0, .int 0, .int 0, .ref q_1, .ref q_2, .ref q_3, .ref q_4, .null])), (q_4, .inl (cy 1, 1000, .inl (fun _ => 0)))] H := hP
  have hD : va_D A [(h0, .inr (8, [.int 0, .int 0, .int 1, .int 1, .int 0, .int 0, .int 0, .int 0, .ref q_1, .ref q_2, .ref q_3, .ref q_4, .null])), (q_4, .inl (cy 1, 1000, .inl (fun _ => 0)))] := hD
  have hP := hP.sub (ws' := [(h0, .inr (8, [.int 0, .int 0, .int 1, .int 1, .int 0, .int 0, .int 0, .int 0, .ref q_1, .ref q_2, .ref q_3, .ref q_4, .null]))]) [0] rfl
  have hD := hD.sub (ws' := [(h0, .inr (8, [.int 0, .int 0, .int 1, .int 1, .int 0, .int 0, .int 0, .int 0, .ref q_1, .ref q_2, .ref q_3, .ref q_4, .null]))]) [0] (by decide) rfl
  refine lv_aload_n hx hb dX8_init_77 rfl (lv_at hl 0 rfl) ?_
  refine lv_sipush (v := 1000) hx hb dX8_init_78 (by decide) ?_
  refine vz_newa (atype := .short) (ty := .short) (t0 := 3) (N' := 1000) (a0 := (1000, .inl (fun _ => 0))) hx hb (hts (.arrayClass .short) (List.mem_of_getElem? (i := 18) rfl)) rfl rfl hK hP hD hS hA (fun _ => rfl) (by decide) rfl (by decide) (Nat.le_of_ble_eq_true rfl) (Nat.le_of_ble_eq_true rfl) dX8_init_81 (fun q_5 H hP hD hS => ?_)
  have hP : va_P (dC, dI) vwCl [(h0, .inr (8, [.int 0, .int 0, .int 1, .int 1, .int 0, .int 0, .int 0, .int 0, .ref q_1, .ref q_2, .ref q_3, .ref q_4, .null])), (q_5, .inl (cy 3, 1000, .inl (fun _ => 0)))] H := hP
  have hD : va_D A [(h0, .inr (8, [.int 0, .int 0, .int 1, .int 1, .int 0, .int 0, .int 0, .int 0, .ref q_1, .ref q_2, .ref q_3, .ref q_4, .null])), (q_5, .inl (cy 3, 1000, .inl (fun _ => 0)))] := hD
  refine W.widen (k := 5) (n := 2104) (Nat.le_of_ble_eq_true rfl) (Nat.le_of_ble_eq_true rfl) ?_
  refine va_putF (D := (dC, dI)) (ci := 8) (v := .ref q_5) (C := RX8) (T := TX8) (N := 13) hx hb hts (fun _ h9 => List.mem_cons_of_mem _ (List.mem_append_right _ h9)) tyX8 tyX8_ok nmX8 hown hK hP hD hS 0 rfl rfl 12 (by decide) (hts (.fieldLink RX8 51 "SeatsRound$Table" "ahead" "[S") (List.mem_of_getElem? (i := 19) rfl)) (fun _ h9 => h9) rfl hin rfl (tyX8_ok 12 (by decide)) rfl rfl (Nat.le_of_ble_eq_true rfl) dX8_init_83 (fun H locs hP hD hS => ?_)
  have hP : va_P (dC, dI) vwCl [(h0, .inr (8, [.int 0, .int 0, .int 1, .int 1, .int 0, .int 0, .int 0, .int 0, .ref q_1, .ref q_2, .ref q_3, .ref q_4, .ref q_5])), (q_5, .inl (cy 3, 1000, .inl (fun _ => 0)))] H := hP
  have hD : va_D A [(h0, .inr (8, [.int 0, .int 0, .int 1, .int 1, .int 0, .int 0, .int 0, .int 0, .ref q_1, .ref q_2, .ref q_3, .ref q_4, .ref q_5])), (q_5, .inl (cy 3, 1000, .inl (fun _ => 0)))] := hD
  have hP := hP.sub (ws' := [(h0, .inr (8, [.int 0, .int 0, .int 1, .int 1, .int 0, .int 0, .int 0, .int 0, .ref q_1, .ref q_2, .ref q_3, .ref q_4, .ref q_5]))]) [0] rfl
  have hD := hD.sub (ws' := [(h0, .inr (8, [.int 0, .int 0, .int 1, .int 1, .int 0, .int 0, .int 0, .int 0, .ref q_1, .ref q_2, .ref q_3, .ref q_4, .ref q_5]))]) [0] (by decide) rfl
  have hP9 := hP.sub (ws' := []) [] rfl
  have hD9 := hD.sub (ws' := []) [] (by decide) rfl
  exact W.vret hx hb hr (fun t ht hW => ⟨⟨(fun k => [q_1, q_2, q_3, q_4, q_5].getD k 0), rfl, trivial, ⟨by rw [ht]; exact hP9, hD9⟩⟩, hS.F ht⟩) hS.2.2 dX8_init_86
set_option maxHeartbeats 4000000 in
set_option maxRecDepth 100000 in
theorem c_Parcels_init (l : Launch) (dC : Nat → ClassId) (dI : Nat → Nat → Nat) (cy : Nat → ClassId) (h0 : Nat) (k0 : Nat) (k1 : Nat) (k2 : Nat) (sz : Nat)  : Met l yX6_init wsX6_init ({ frames := 1, cells := 68, slots := 2532, locals := 23 }) (va_Pc [.ref h0, .ref k0, .ref k1, .ref k2] (wPre (dC, dI) cy [(h0, .inr (6, [.null, .null, .null, .null, .null, .null, .null, .null, .int 0, .null, .null, .null]))] sz)) (va_Qv (fun (u : Nat → Nat) => True) (fun (u : Nat → Nat) t => wAt (dC, dI) (va_A [(h0, .inr (6, [.null, .null, .null, .null, .null, .null, .null, .null, .int 0, .null, .null, .null]))] sz) [(h0, .inr (6, [.ref (u 0), .ref (u 1), .ref (u 2), .ref (u 3), .ref (u 4), .ref (u 5), .ref (u 6), .ref (u 7), .int 0, .ref k0, .ref k1, .ref k2]))] t) (va_A [(h0, .inr (6, [.null, .null, .null, .null, .null, .null, .null, .null, .int 0, .null, .null, .null]))] sz)) 68 2532 (va_A [(h0, .inr (6, [.null, .null, .null, .null, .null, .null, .null, .null, .int 0, .null, .null, .null]))] sz) := by
  refine Met.ofW (cc := cX6_init) (maxL := 4) (ret := none) (by decide) rfl ?_
  intro p e s m args below meth c s₁ B hml hv
  obtain ⟨rfl, hsz, hP, hK, hD0, hN⟩ := hv
  have hx := B.exec
  have hb := B.bytes
  have hr := B.returns
  have hts := atoms_spec (ws := wsX6_init) B.pre
  have hown : s.vm.findClass RX6 = some m.cls := findClass_of_methodNamed B.named
  have hlocks := B.notSynchronized
  subst hsz
  have hin : meth.name = "<init>" := (name_of_methodNamed B.named B.method).1
  have hD := hD0.self (sz := s.heap.size)
  generalize hAe : va_A [(h0, .inr (6, [.null, .null, .null, .null, .null, .null, .null, .null, .int 0, .null, .null, .null]))] s.heap.size = A at hD ⊢
  have hA : ∀ q : Nat, s.heap.size ≤ q → A q := fun q h => by rw [← hAe]; exact Or.inr h
  have hS : va_S A s.heap s.heap [] := va_S.rf
  have hl := lv_entry ([.ref h0, .ref k0, .ref k1, .ref k2]) (n := 4) (Nat.le_of_ble_eq_true rfl)
  rw [lg_entry_eq]
  generalize (lg_sl ([.ref h0, .ref k0, .ref k1, .ref k2]) ++ List.replicate (4 - (lg_sl ([.ref h0, .ref k0, .ref k1, .ref k2])).length) Slot.unset).toArray = ls at hl ⊢
  have hl : lv_has ls 4 [(0, .ref h0), (1, .ref k0), (2, .ref k1), (3, .ref k2)] := hl
  refine lv_aload_n hx hb dX6_init_0 rfl (lv_at hl 0 rfl) ?_
  refine W.objInit hx hb hown (hts (.methodLink RX6 3 objectInit) (List.mem_of_getElem? (i := 1) rfl)) (hts (.instanceMethod objectInit) (List.mem_of_getElem? (i := 2) rfl)) (hts (.code objectInit ⟨#[0xb1]⟩ 1 none) (List.mem_of_getElem? (i := 3) rfl)) rfl (hl.1.trans hml.symm) rfl dX6_init_1 (Nat.le_of_ble_eq_true rfl) (Nat.le_of_ble_eq_true rfl) ?_
  refine lv_aload_n hx hb dX6_init_4 rfl (lv_at hl 0 rfl) ?_
  refine lv_bipush (v := 12) hx hb dX6_init_5 (by decide) ?_
  refine lv_bipush (v := 40) hx hb dX6_init_7 (by decide) ?_
  refine vz_mna (t0 := 6) (t1 := 0) (N' := 12) (K' := 40) (z := (40, .inl (fun _ => 0))) (ty := .int) hx hb hown (hts (.classLink RX6 9 "[[I") (List.mem_of_getElem? (i := 4) rfl)) hN.2.2.2.1 (hts (.arrayClass .int) (List.mem_of_getElem? (i := 5) rfl)) rfl (hK.2 0 _ rfl).2 hK hP hD hS hA (by decide) (by decide) rfl rfl (by decide) (by decide) (by decide) rfl rfl (Nat.le_of_ble_eq_true rfl) (Nat.le_of_ble_eq_true rfl) (fun _ => rfl) dX6_init_9 (fun q_1 r_2 H hP hD hS => ?_)
  have hP := va_P.take 2 hP
  have hD := va_D.take 2 hD
  have hP : va_P (dC, dI) vwCl [(h0, .inr (6, [.null, .null, .null, .null, .null, .null, .null, .null, .int 0, .null, .null, .null])), (q_1, .inl (cy 6, 12, .inr (.inr (.inr (.inr (fun i => if i < 12 then some (r_2 i) else none))))))] H := hP
  have hD : va_D A [(h0, .inr (6, [.null, .null, .null, .null, .null, .null, .null, .null, .int 0, .null, .null, .null])), (q_1, .inl (cy 6, 12, .inr (.inr (.inr (.inr (fun i => if i < 12 then some (r_2 i) else none))))))] := hD
  refine W.widen (k := 13) (n := 492) (Nat.le_of_ble_eq_true rfl) (Nat.le_of_ble_eq_true rfl) ?_
  refine va_putF (D := (dC, dI)) (ci := 6) (v := .ref q_1) (C := RX6) (T := TX6) (N := 12) hx hb hts (fun _ h9 => List.mem_cons_of_mem _ (List.mem_append_right _ h9)) tyX6 tyX6_ok nmX6 hown hK hP hD hS 0 rfl rfl 0 (by decide) (hts (.fieldLink RX6 11 "SeatsRound$Parcels" "version" "[[I") (List.mem_of_getElem? (i := 6) rfl)) (fun _ h9 => h9) rfl hin rfl (tyX6_ok 0 (by decide)) rfl rfl (Nat.le_of_ble_eq_true rfl) dX6_init_13 (fun H locs hP hD hS => ?_)
  have hP : va_P (dC, dI) vwCl [(h0, .inr (6, [.ref q_1, .null, .null, .null, .null, .null, .null, .null, .int 0, .null, .null, .null])), (q_1, .inl (cy 6, 12, .inr (.inr (.inr (.inr (fun i => if i < 12 then some (r_2 i) else none))))))] H := hP
  have hD : va_D A [(h0, .inr (6, [.ref q_1, .null, .null, .null, .null, .null, .null, .null, .int 0, .null, .null, .null])), (q_1, .inl (cy 6, 12, .inr (.inr (.inr (.inr (fun i => if i < 12 then some (r_2 i) else none))))))] := hD
  have hP := hP.sub (ws' := [(h0, .inr (6, [.ref q_1, .null, .null, .null, .null, .null, .null, .null, .int 0, .null, .null, .null]))]) [0] rfl
  have hD := hD.sub (ws' := [(h0, .inr (6, [.ref q_1, .null, .null, .null, .null, .null, .null, .null, .int 0, .null, .null, .null]))]) [0] (by decide) rfl
  refine lv_aload_n hx hb dX6_init_16 rfl (lv_at hl 0 rfl) ?_
  refine lv_bipush (v := 12) hx hb dX6_init_17 (by decide) ?_
  refine lv_bipush (v := 40) hx hb dX6_init_19 (by decide) ?_
  refine vz_mna (t0 := 6) (t1 := 0) (N' := 12) (K' := 40) (z := (40, .inl (fun _ => 0))) (ty := .int) hx hb hown (hts (.classLink RX6 9 "[[I") (List.mem_of_getElem? (i := 4) rfl)) hN.2.2.2.1 (hts (.arrayClass .int) (List.mem_of_getElem? (i := 5) rfl)) rfl (hK.2 0 _ rfl).2 hK hP hD hS hA (by decide) (by decide) rfl rfl (by decide) (by decide) (by decide) rfl rfl (Nat.le_of_ble_eq_true rfl) (Nat.le_of_ble_eq_true rfl) (fun _ => rfl) dX6_init_21 (fun q_3 r_4 H hP hD hS => ?_)
  have hP := va_P.take 2 hP
  have hD := va_D.take 2 hD
  have hP : va_P (dC, dI) vwCl [(h0, .inr (6, [.ref q_1, .null, .null, .null, .null, .null, .null, .null, .int 0, .null, .null, .null])), (q_3, .inl (cy 6, 12, .inr (.inr (.inr (.inr (fun i => if i < 12 then some (r_4 i) else none))))))] H := hP
  have hD : va_D A [(h0, .inr (6, [.ref q_1, .null, .null, .null, .null, .null, .null, .null, .int 0, .null, .null, .null])), (q_3, .inl (cy 6, 12, .inr (.inr (.inr (.inr (fun i => if i < 12 then some (r_4 i) else none))))))] := hD
  refine W.widen (k := 26) (n := 984) (Nat.le_of_ble_eq_true rfl) (Nat.le_of_ble_eq_true rfl) ?_
  refine va_putF (D := (dC, dI)) (ci := 6) (v := .ref q_3) (C := RX6) (T := TX6) (N := 12) hx hb hts (fun _ h9 => List.mem_cons_of_mem _ (List.mem_append_right _ h9)) tyX6 tyX6_ok nmX6 hown hK hP hD hS 0 rfl rfl 1 (by decide) (hts (.fieldLink RX6 16 "SeatsRound$Parcels" "kept" "[[I") (List.mem_of_getElem? (i := 7) rfl)) (fun _ h9 => h9) rfl hin rfl (tyX6_ok 1 (by decide)) rfl rfl (Nat.le_of_ble_eq_true rfl) dX6_init_25 (fun H locs hP hD hS => ?_)
  have hP : va_P (dC, dI) vwCl [(h0, .inr (6, [.ref q_1, .ref q_3, .null, .null, .null, .null, .null, .null, .int 0, .null, .null, .null])), (q_3, .inl (cy 6, 12, .inr (.inr (.inr (.inr (fun i => if i < 12 then some (r_4 i) else none))))))] H := hP
  have hD : va_D A [(h0, .inr (6, [.ref q_1, .ref q_3, .null, .null, .null, .null, .null, .null, .int 0, .null, .null, .null])), (q_3, .inl (cy 6, 12, .inr (.inr (.inr (.inr (fun i => if i < 12 then some (r_4 i) else none))))))] := hD
  have hP := hP.sub (ws' := [(h0, .inr (6, [.ref q_1, .ref q_3, .null, .null, .null, .null, .null, .null, .int 0, .null, .null, .null]))]) [0] rfl
  have hD := hD.sub (ws' := [(h0, .inr (6, [.ref q_1, .ref q_3, .null, .null, .null, .null, .null, .null, .int 0, .null, .null, .null]))]) [0] (by decide) rfl
  refine lv_aload_n hx hb dX6_init_28 rfl (lv_at hl 0 rfl) ?_
  refine lv_bipush (v := 12) hx hb dX6_init_29 (by decide) ?_
  refine lv_bipush (v := 40) hx hb dX6_init_31 (by decide) ?_
  refine vz_mna (t0 := 6) (t1 := 0) (N' := 12) (K' := 40) (z := (40, .inl (fun _ => 0))) (ty := .int) hx hb hown (hts (.classLink RX6 9 "[[I") (List.mem_of_getElem? (i := 4) rfl)) hN.2.2.2.1 (hts (.arrayClass .int) (List.mem_of_getElem? (i := 5) rfl)) rfl (hK.2 0 _ rfl).2 hK hP hD hS hA (by decide) (by decide) rfl rfl (by decide) (by decide) (by decide) rfl rfl (Nat.le_of_ble_eq_true rfl) (Nat.le_of_ble_eq_true rfl) (fun _ => rfl) dX6_init_33 (fun q_5 r_6 H hP hD hS => ?_)
  have hP := va_P.take 2 hP
  have hD := va_D.take 2 hD
  have hP : va_P (dC, dI) vwCl [(h0, .inr (6, [.ref q_1, .ref q_3, .null, .null, .null, .null, .null, .null, .int 0, .null, .null, .null])), (q_5, .inl (cy 6, 12, .inr (.inr (.inr (.inr (fun i => if i < 12 then some (r_6 i) else none))))))] H := hP
  have hD : va_D A [(h0, .inr (6, [.ref q_1, .ref q_3, .null, .null, .null, .null, .null, .null, .int 0, .null, .null, .null])), (q_5, .inl (cy 6, 12, .inr (.inr (.inr (.inr (fun i => if i < 12 then some (r_6 i) else none))))))] := hD
  refine W.widen (k := 39) (n := 1476) (Nat.le_of_ble_eq_true rfl) (Nat.le_of_ble_eq_true rfl) ?_
  refine va_putF (D := (dC, dI)) (ci := 6) (v := .ref q_5) (C := RX6) (T := TX6) (N := 12) hx hb hts (fun _ h9 => List.mem_cons_of_mem _ (List.mem_append_right _ h9)) tyX6 tyX6_ok nmX6 hown hK hP hD hS 0 rfl rfl 2 (by decide) (hts (.fieldLink RX6 19 "SeatsRound$Parcels" "keptFor" "[[I") (List.mem_of_getElem? (i := 8) rfl)) (fun _ h9 => h9) rfl hin rfl (tyX6_ok 2 (by decide)) rfl rfl (Nat.le_of_ble_eq_true rfl) dX6_init_37 (fun H locs hP hD hS => ?_)
  have hP : va_P (dC, dI) vwCl [(h0, .inr (6, [.ref q_1, .ref q_3, .ref q_5, .null, .null, .null, .null, .null, .int 0, .null, .null, .null])), (q_5, .inl (cy 6, 12, .inr (.inr (.inr (.inr (fun i => if i < 12 then some (r_6 i) else none))))))] H := hP
  have hD : va_D A [(h0, .inr (6, [.ref q_1, .ref q_3, .ref q_5, .null, .null, .null, .null, .null, .int 0, .null, .null, .null])), (q_5, .inl (cy 6, 12, .inr (.inr (.inr (.inr (fun i => if i < 12 then some (r_6 i) else none))))))] := hD
  have hP := hP.sub (ws' := [(h0, .inr (6, [.ref q_1, .ref q_3, .ref q_5, .null, .null, .null, .null, .null, .int 0, .null, .null, .null]))]) [0] rfl
  have hD := hD.sub (ws' := [(h0, .inr (6, [.ref q_1, .ref q_3, .ref q_5, .null, .null, .null, .null, .null, .int 0, .null, .null, .null]))]) [0] (by decide) rfl
  refine lv_aload_n hx hb dX6_init_40 rfl (lv_at hl 0 rfl) ?_
  refine lv_bipush (v := 12) hx hb dX6_init_41 (by decide) ?_
  refine lv_bipush (v := 40) hx hb dX6_init_43 (by decide) ?_
  refine vz_mna (t0 := 6) (t1 := 0) (N' := 12) (K' := 40) (z := (40, .inl (fun _ => 0))) (ty := .int) hx hb hown (hts (.classLink RX6 9 "[[I") (List.mem_of_getElem? (i := 4) rfl)) hN.2.2.2.1 (hts (.arrayClass .int) (List.mem_of_getElem? (i := 5) rfl)) rfl (hK.2 0 _ rfl).2 hK hP hD hS hA (by decide) (by decide) rfl rfl (by decide) (by decide) (by decide) rfl rfl (Nat.le_of_ble_eq_true rfl) (Nat.le_of_ble_eq_true rfl) (fun _ => rfl) dX6_init_45 (fun q_7 r_8 H hP hD hS => ?_)
  have hP := va_P.take 2 hP
  have hD := va_D.take 2 hD
  have hP : va_P (dC, dI) vwCl [(h0, .inr (6, [.ref q_1, .ref q_3, .ref q_5, .null, .null, .null, .null, .null, .int 0, .null, .null, .null])), (q_7, .inl (cy 6, 12, .inr (.inr (.inr (.inr (fun i => if i < 12 then some (r_8 i) else none))))))] H := hP
  have hD : va_D A [(h0, .inr (6, [.ref q_1, .ref q_3, .ref q_5, .null, .null, .null, .null, .null, .int 0, .null, .null, .null])), (q_7, .inl (cy 6, 12, .inr (.inr (.inr (.inr (fun i => if i < 12 then some (r_8 i) else none))))))] := hD
  refine W.widen (k := 52) (n := 1968) (Nat.le_of_ble_eq_true rfl) (Nat.le_of_ble_eq_true rfl) ?_
  refine va_putF (D := (dC, dI)) (ci := 6) (v := .ref q_7) (C := RX6) (T := TX6) (N := 12) hx hb hts (fun _ h9 => List.mem_cons_of_mem _ (List.mem_append_right _ h9)) tyX6 tyX6_ok nmX6 hown hK hP hD hS 0 rfl rfl 3 (by decide) (hts (.fieldLink RX6 22 "SeatsRound$Parcels" "pieces" "[[I") (List.mem_of_getElem? (i := 9) rfl)) (fun _ h9 => h9) rfl hin rfl (tyX6_ok 3 (by decide)) rfl rfl (Nat.le_of_ble_eq_true rfl) dX6_init_49 (fun H locs hP hD hS => ?_)
  have hP : va_P (dC, dI) vwCl [(h0, .inr (6, [.ref q_1, .ref q_3, .ref q_5, .ref q_7, .null, .null, .null, .null, .int 0, .null, .null, .null])), (q_7, .inl (cy 6, 12, .inr (.inr (.inr (.inr (fun i => if i < 12 then some (r_8 i) else none))))))] H := hP
  have hD : va_D A [(h0, .inr (6, [.ref q_1, .ref q_3, .ref q_5, .ref q_7, .null, .null, .null, .null, .int 0, .null, .null, .null])), (q_7, .inl (cy 6, 12, .inr (.inr (.inr (.inr (fun i => if i < 12 then some (r_8 i) else none))))))] := hD
  have hP := hP.sub (ws' := [(h0, .inr (6, [.ref q_1, .ref q_3, .ref q_5, .ref q_7, .null, .null, .null, .null, .int 0, .null, .null, .null]))]) [0] rfl
  have hD := hD.sub (ws' := [(h0, .inr (6, [.ref q_1, .ref q_3, .ref q_5, .ref q_7, .null, .null, .null, .null, .int 0, .null, .null, .null]))]) [0] (by decide) rfl
  refine lv_aload_n hx hb dX6_init_52 rfl (lv_at hl 0 rfl) ?_
  refine lv_bipush (v := 12) hx hb dX6_init_53 (by decide) ?_
  refine lv_bipush (v := 40) hx hb dX6_init_55 (by decide) ?_
  refine vz_mna (t0 := 6) (t1 := 0) (N' := 12) (K' := 40) (z := (40, .inl (fun _ => 0))) (ty := .int) hx hb hown (hts (.classLink RX6 9 "[[I") (List.mem_of_getElem? (i := 4) rfl)) hN.2.2.2.1 (hts (.arrayClass .int) (List.mem_of_getElem? (i := 5) rfl)) rfl (hK.2 0 _ rfl).2 hK hP hD hS hA (by decide) (by decide) rfl rfl (by decide) (by decide) (by decide) rfl rfl (Nat.le_of_ble_eq_true rfl) (Nat.le_of_ble_eq_true rfl) (fun _ => rfl) dX6_init_57 (fun q_9 r_10 H hP hD hS => ?_)
  have hP := va_P.take 2 hP
  have hD := va_D.take 2 hD
  have hP : va_P (dC, dI) vwCl [(h0, .inr (6, [.ref q_1, .ref q_3, .ref q_5, .ref q_7, .null, .null, .null, .null, .int 0, .null, .null, .null])), (q_9, .inl (cy 6, 12, .inr (.inr (.inr (.inr (fun i => if i < 12 then some (r_10 i) else none))))))] H := hP
  have hD : va_D A [(h0, .inr (6, [.ref q_1, .ref q_3, .ref q_5, .ref q_7, .null, .null, .null, .null, .int 0, .null, .null, .null])), (q_9, .inl (cy 6, 12, .inr (.inr (.inr (.inr (fun i => if i < 12 then some (r_10 i) else none))))))] := hD
  refine W.widen (k := 65) (n := 2460) (Nat.le_of_ble_eq_true rfl) (Nat.le_of_ble_eq_true rfl) ?_
  refine va_putF (D := (dC, dI)) (ci := 6) (v := .ref q_9) (C := RX6) (T := TX6) (N := 12) hx hb hts (fun _ h9 => List.mem_cons_of_mem _ (List.mem_append_right _ h9)) tyX6 tyX6_ok nmX6 hown hK hP hD hS 0 rfl rfl 4 (by decide) (hts (.fieldLink RX6 25 "SeatsRound$Parcels" "pieceTo" "[[I") (List.mem_of_getElem? (i := 10) rfl)) (fun _ h9 => h9) rfl hin rfl (tyX6_ok 4 (by decide)) rfl rfl (Nat.le_of_ble_eq_true rfl) dX6_init_61 (fun H locs hP hD hS => ?_)
  have hP : va_P (dC, dI) vwCl [(h0, .inr (6, [.ref q_1, .ref q_3, .ref q_5, .ref q_7, .ref q_9, .null, .null, .null, .int 0, .null, .null, .null])), (q_9, .inl (cy 6, 12, .inr (.inr (.inr (.inr (fun i => if i < 12 then some (r_10 i) else none))))))] H := hP
  have hD : va_D A [(h0, .inr (6, [.ref q_1, .ref q_3, .ref q_5, .ref q_7, .ref q_9, .null, .null, .null, .int 0, .null, .null, .null])), (q_9, .inl (cy 6, 12, .inr (.inr (.inr (.inr (fun i => if i < 12 then some (r_10 i) else none))))))] := hD
  have hP := hP.sub (ws' := [(h0, .inr (6, [.ref q_1, .ref q_3, .ref q_5, .ref q_7, .ref q_9, .null, .null, .null, .int 0, .null, .null, .null]))]) [0] rfl
  have hD := hD.sub (ws' := [(h0, .inr (6, [.ref q_1, .ref q_3, .ref q_5, .ref q_7, .ref q_9, .null, .null, .null, .int 0, .null, .null, .null]))]) [0] (by decide) rfl
  refine lv_aload_n hx hb dX6_init_64 rfl (lv_at hl 0 rfl) ?_
  refine lv_bipush (v := 40) hx hb dX6_init_65 (by decide) ?_
  refine vz_newa (atype := .int) (ty := .int) (t0 := 0) (N' := 40) (a0 := (40, .inl (fun _ => 0))) hx hb (hts (.arrayClass .int) (List.mem_of_getElem? (i := 5) rfl)) rfl rfl hK hP hD hS hA (fun _ => rfl) (by decide) rfl (by decide) (Nat.le_of_ble_eq_true rfl) (Nat.le_of_ble_eq_true rfl) dX6_init_67 (fun q_11 H hP hD hS => ?_)
  have hP : va_P (dC, dI) vwCl [(h0, .inr (6, [.ref q_1, .ref q_3, .ref q_5, .ref q_7, .ref q_9, .null, .null, .null, .int 0, .null, .null, .null])), (q_11, .inl (cy 0, 40, .inl (fun _ => 0)))] H := hP
  have hD : va_D A [(h0, .inr (6, [.ref q_1, .ref q_3, .ref q_5, .ref q_7, .ref q_9, .null, .null, .null, .int 0, .null, .null, .null])), (q_11, .inl (cy 0, 40, .inl (fun _ => 0)))] := hD
  refine W.widen (k := 66) (n := 2500) (Nat.le_of_ble_eq_true rfl) (Nat.le_of_ble_eq_true rfl) ?_
  refine va_putF (D := (dC, dI)) (ci := 6) (v := .ref q_11) (C := RX6) (T := TX6) (N := 12) hx hb hts (fun _ h9 => List.mem_cons_of_mem _ (List.mem_append_right _ h9)) tyX6 tyX6_ok nmX6 hown hK hP hD hS 0 rfl rfl 5 (by decide) (hts (.fieldLink RX6 28 "SeatsRound$Parcels" "latest" "[I") (List.mem_of_getElem? (i := 11) rfl)) (fun _ h9 => h9) rfl hin rfl (tyX6_ok 5 (by decide)) rfl rfl (Nat.le_of_ble_eq_true rfl) dX6_init_69 (fun H locs hP hD hS => ?_)
  have hP : va_P (dC, dI) vwCl [(h0, .inr (6, [.ref q_1, .ref q_3, .ref q_5, .ref q_7, .ref q_9, .ref q_11, .null, .null, .int 0, .null, .null, .null])), (q_11, .inl (cy 0, 40, .inl (fun _ => 0)))] H := hP
  have hD : va_D A [(h0, .inr (6, [.ref q_1, .ref q_3, .ref q_5, .ref q_7, .ref q_9, .ref q_11, .null, .null, .int 0, .null, .null, .null])), (q_11, .inl (cy 0, 40, .inl (fun _ => 0)))] := hD
  have hP := hP.sub (ws' := [(h0, .inr (6, [.ref q_1, .ref q_3, .ref q_5, .ref q_7, .ref q_9, .ref q_11, .null, .null, .int 0, .null, .null, .null]))]) [0] rfl
  have hD := hD.sub (ws' := [(h0, .inr (6, [.ref q_1, .ref q_3, .ref q_5, .ref q_7, .ref q_9, .ref q_11, .null, .null, .int 0, .null, .null, .null]))]) [0] (by decide) rfl
  refine lv_aload_n hx hb dX6_init_72 rfl (lv_at hl 0 rfl) ?_
  refine lv_bipush (v := 16) hx hb dX6_init_73 (by decide) ?_
  refine vz_newa (atype := .int) (ty := .int) (t0 := 0) (N' := 16) (a0 := (16, .inl (fun _ => 0))) hx hb (hts (.arrayClass .int) (List.mem_of_getElem? (i := 5) rfl)) rfl rfl hK hP hD hS hA (fun _ => rfl) (by decide) rfl (by decide) (Nat.le_of_ble_eq_true rfl) (Nat.le_of_ble_eq_true rfl) dX6_init_75 (fun q_12 H hP hD hS => ?_)
  have hP : va_P (dC, dI) vwCl [(h0, .inr (6, [.ref q_1, .ref q_3, .ref q_5, .ref q_7, .ref q_9, .ref q_11, .null, .null, .int 0, .null, .null, .null])), (q_12, .inl (cy 0, 16, .inl (fun _ => 0)))] H := hP
  have hD : va_D A [(h0, .inr (6, [.ref q_1, .ref q_3, .ref q_5, .ref q_7, .ref q_9, .ref q_11, .null, .null, .int 0, .null, .null, .null])), (q_12, .inl (cy 0, 16, .inl (fun _ => 0)))] := hD
  refine W.widen (k := 67) (n := 2516) (Nat.le_of_ble_eq_true rfl) (Nat.le_of_ble_eq_true rfl) ?_
  refine va_putF (D := (dC, dI)) (ci := 6) (v := .ref q_12) (C := RX6) (T := TX6) (N := 12) hx hb hts (fun _ h9 => List.mem_cons_of_mem _ (List.mem_append_right _ h9)) tyX6 tyX6_ok nmX6 hown hK hP hD hS 0 rfl rfl 6 (by decide) (hts (.fieldLink RX6 32 "SeatsRound$Parcels" "oneTree" "[I") (List.mem_of_getElem? (i := 12) rfl)) (fun _ h9 => h9) rfl hin rfl (tyX6_ok 6 (by decide)) rfl rfl (Nat.le_of_ble_eq_true rfl) dX6_init_77 (fun H locs hP hD hS => ?_)
  have hP : va_P (dC, dI) vwCl [(h0, .inr (6, [.ref q_1, .ref q_3, .ref q_5, .ref q_7, .ref q_9, .ref q_11, .ref q_12, .null, .int 0, .null, .null, .null])), (q_12, .inl (cy 0, 16, .inl (fun _ => 0)))] H := hP
  have hD : va_D A [(h0, .inr (6, [.ref q_1, .ref q_3, .ref q_5, .ref q_7, .ref q_9, .ref q_11, .ref q_12, .null, .int 0, .null, .null, .null])), (q_12, .inl (cy 0, 16, .inl (fun _ => 0)))] := hD
  have hP := hP.sub (ws' := [(h0, .inr (6, [.ref q_1, .ref q_3, .ref q_5, .ref q_7, .ref q_9, .ref q_11, .ref q_12, .null, .int 0, .null, .null, .null]))]) [0] rfl
  have hD := hD.sub (ws' := [(h0, .inr (6, [.ref q_1, .ref q_3, .ref q_5, .ref q_7, .ref q_9, .ref q_11, .ref q_12, .null, .int 0, .null, .null, .null]))]) [0] (by decide) rfl
  refine lv_aload_n hx hb dX6_init_80 rfl (lv_at hl 0 rfl) ?_
  refine lv_bipush (v := 16) hx hb dX6_init_81 (by decide) ?_
  refine vz_newa (atype := .int) (ty := .int) (t0 := 0) (N' := 16) (a0 := (16, .inl (fun _ => 0))) hx hb (hts (.arrayClass .int) (List.mem_of_getElem? (i := 5) rfl)) rfl rfl hK hP hD hS hA (fun _ => rfl) (by decide) rfl (by decide) (Nat.le_of_ble_eq_true rfl) (Nat.le_of_ble_eq_true rfl) dX6_init_83 (fun q_13 H hP hD hS => ?_)
  have hP : va_P (dC, dI) vwCl [(h0, .inr (6, [.ref q_1, .ref q_3, .ref q_5, .ref q_7, .ref q_9, .ref q_11, .ref q_12, .null, .int 0, .null, .null, .null])), (q_13, .inl (cy 0, 16, .inl (fun _ => 0)))] H := hP
  have hD : va_D A [(h0, .inr (6, [.ref q_1, .ref q_3, .ref q_5, .ref q_7, .ref q_9, .ref q_11, .ref q_12, .null, .int 0, .null, .null, .null])), (q_13, .inl (cy 0, 16, .inl (fun _ => 0)))] := hD
  refine W.widen (k := 68) (n := 2532) (Nat.le_of_ble_eq_true rfl) (Nat.le_of_ble_eq_true rfl) ?_
  refine va_putF (D := (dC, dI)) (ci := 6) (v := .ref q_13) (C := RX6) (T := TX6) (N := 12) hx hb hts (fun _ h9 => List.mem_cons_of_mem _ (List.mem_append_right _ h9)) tyX6 tyX6_ok nmX6 hown hK hP hD hS 0 rfl rfl 7 (by decide) (hts (.fieldLink RX6 35 "SeatsRound$Parcels" "otherTree" "[I") (List.mem_of_getElem? (i := 13) rfl)) (fun _ h9 => h9) rfl hin rfl (tyX6_ok 7 (by decide)) rfl rfl (Nat.le_of_ble_eq_true rfl) dX6_init_85 (fun H locs hP hD hS => ?_)
  have hP : va_P (dC, dI) vwCl [(h0, .inr (6, [.ref q_1, .ref q_3, .ref q_5, .ref q_7, .ref q_9, .ref q_11, .ref q_12, .ref q_13, .int 0, .null, .null, .null])), (q_13, .inl (cy 0, 16, .inl (fun _ => 0)))] H := hP
  have hD : va_D A [(h0, .inr (6, [.ref q_1, .ref q_3, .ref q_5, .ref q_7, .ref q_9, .ref q_11, .ref q_12, .ref q_13, .int 0, .null, .null, .null])), (q_13, .inl (cy 0, 16, .inl (fun _ => 0)))] := hD
  have hP := hP.sub (ws' := [(h0, .inr (6, [.ref q_1, .ref q_3, .ref q_5, .ref q_7, .ref q_9, .ref q_11, .ref q_12, .ref q_13, .int 0, .null, .null, .null]))]) [0] rfl
  have hD := hD.sub (ws' := [(h0, .inr (6, [.ref q_1, .ref q_3, .ref q_5, .ref q_7, .ref q_9, .ref q_11, .ref q_12, .ref q_13, .int 0, .null, .null, .null]))]) [0] (by decide) rfl
  refine lv_aload_n hx hb dX6_init_88 rfl (lv_at hl 0 rfl) ?_
  refine lv_iconst (v := 0) hx hb dX6_init_89 (by decide) ?_
  refine va_put (D := (dC, dI)) (ci := 6) (v := .int 0) (C := RX6) (T := TX6) (N := 12) hx hb hts (fun _ h9 => List.mem_cons_of_mem _ (List.mem_append_right _ h9)) tyX6 tyX6_ok nmX6 hown hK hP hD hS 0 rfl rfl 8 (by decide) (hts (.fieldLink RX6 38 "SeatsRound$Parcels" "writings" "I") (List.mem_of_getElem? (i := 14) rfl)) (fun _ h9 => h9) rfl (tyX6_ok 8 (by decide)) rfl rfl (Nat.le_of_ble_eq_true rfl) dX6_init_90 (fun H locs hP hD hS => ?_)
  have hP : va_P (dC, dI) vwCl [(h0, .inr (6, [.ref q_1, .ref q_3, .ref q_5, .ref q_7, .ref q_9, .ref q_11, .ref q_12, .ref q_13, .int 0, .null, .null, .null]))] H := hP
  have hD : va_D A [(h0, .inr (6, [.ref q_1, .ref q_3, .ref q_5, .ref q_7, .ref q_9, .ref q_11, .ref q_12, .ref q_13, .int 0, .null, .null, .null]))] := hD
  refine lv_aload_n hx hb dX6_init_93 rfl (lv_at hl 0 rfl) ?_
  refine lv_aload_n hx hb dX6_init_94 rfl (lv_at hl 1 rfl) ?_
  refine va_putF (D := (dC, dI)) (ci := 6) (v := .ref k0) (C := RX6) (T := TX6) (N := 12) hx hb hts (fun _ h9 => List.mem_cons_of_mem _ (List.mem_append_right _ h9)) tyX6 tyX6_ok nmX6 hown hK hP hD hS 0 rfl rfl 9 (by decide) (hts (.fieldLink RX6 42 "SeatsRound$Parcels" "keepers" "LSeatsRound$Keepers;") (List.mem_of_getElem? (i := 15) rfl)) (fun _ h9 => h9) rfl hin rfl (tyX6_ok 9 (by decide)) rfl rfl (Nat.le_of_ble_eq_true rfl) dX6_init_95 (fun H locs hP hD hS => ?_)
  have hP : va_P (dC, dI) vwCl [(h0, .inr (6, [.ref q_1, .ref q_3, .ref q_5, .ref q_7, .ref q_9, .ref q_11, .ref q_12, .ref q_13, .int 0, .ref k0, .null, .null]))] H := hP
  have hD : va_D A [(h0, .inr (6, [.ref q_1, .ref q_3, .ref q_5, .ref q_7, .ref q_9, .ref q_11, .ref q_12, .ref q_13, .int 0, .ref k0, .null, .null]))] := hD
  refine lv_aload_n hx hb dX6_init_98 rfl (lv_at hl 0 rfl) ?_
  refine lv_aload_n hx hb dX6_init_99 rfl (lv_at hl 2 rfl) ?_
  refine va_putF (D := (dC, dI)) (ci := 6) (v := .ref k1) (C := RX6) (T := TX6) (N := 12) hx hb hts (fun _ h9 => List.mem_cons_of_mem _ (List.mem_append_right _ h9)) tyX6 tyX6_ok nmX6 hown hK hP hD hS 0 rfl rfl 10 (by decide) (hts (.fieldLink RX6 46 "SeatsRound$Parcels" "nameList" "LSeatsRound$NameList;") (List.mem_of_getElem? (i := 16) rfl)) (fun _ h9 => h9) rfl hin rfl (tyX6_ok 10 (by decide)) rfl rfl (Nat.le_of_ble_eq_true rfl) dX6_init_100 (fun H locs hP hD hS => ?_)
  have hP : va_P (dC, dI) vwCl [(h0, .inr (6, [.ref q_1, .ref q_3, .ref q_5, .ref q_7, .ref q_9, .ref q_11, .ref q_12, .ref q_13, .int 0, .ref k0, .ref k1, .null]))] H := hP
  have hD : va_D A [(h0, .inr (6, [.ref q_1, .ref q_3, .ref q_5, .ref q_7, .ref q_9, .ref q_11, .ref q_12, .ref q_13, .int 0, .ref k0, .ref k1, .null]))] := hD
  refine lv_aload_n hx hb dX6_init_103 rfl (lv_at hl 0 rfl) ?_
  refine lv_aload_n hx hb dX6_init_104 rfl (lv_at hl 3 rfl) ?_
  refine va_putF (D := (dC, dI)) (ci := 6) (v := .ref k2) (C := RX6) (T := TX6) (N := 12) hx hb hts (fun _ h9 => List.mem_cons_of_mem _ (List.mem_append_right _ h9)) tyX6 tyX6_ok nmX6 hown hK hP hD hS 0 rfl rfl 11 (by decide) (hts (.fieldLink RX6 50 "SeatsRound$Parcels" "choice" "LSeatsRound$Choice;") (List.mem_of_getElem? (i := 17) rfl)) (fun _ h9 => h9) rfl hin rfl (tyX6_ok 11 (by decide)) rfl rfl (Nat.le_of_ble_eq_true rfl) dX6_init_105 (fun H locs hP hD hS => ?_)
  have hP : va_P (dC, dI) vwCl [(h0, .inr (6, [.ref q_1, .ref q_3, .ref q_5, .ref q_7, .ref q_9, .ref q_11, .ref q_12, .ref q_13, .int 0, .ref k0, .ref k1, .ref k2]))] H := hP
  have hD : va_D A [(h0, .inr (6, [.ref q_1, .ref q_3, .ref q_5, .ref q_7, .ref q_9, .ref q_11, .ref q_12, .ref q_13, .int 0, .ref k0, .ref k1, .ref k2]))] := hD
  have hP9 := hP.sub (ws' := [(h0, .inr (6, [.ref q_1, .ref q_3, .ref q_5, .ref q_7, .ref q_9, .ref q_11, .ref q_12, .ref q_13, .int 0, .ref k0, .ref k1, .ref k2]))]) [0] rfl
  have hD9 := hD.sub (ws' := [(h0, .inr (6, [.ref q_1, .ref q_3, .ref q_5, .ref q_7, .ref q_9, .ref q_11, .ref q_12, .ref q_13, .int 0, .ref k0, .ref k1, .ref k2]))]) [0] (by decide) rfl
  exact W.vret hx hb hr (fun t ht hW => ⟨⟨(fun k => [q_1, q_3, q_5, q_7, q_9, q_11, q_12, q_13].getD k 0), rfl, trivial, ⟨by rw [ht]; exact hP9, hD9⟩⟩, hS.F ht⟩) hS.2.2 dX6_init_108
set_option maxHeartbeats 4000000 in
set_option maxRecDepth 100000 in
theorem c_Orders_init (l : Launch) (dC : Nat → ClassId) (dI : Nat → Nat → Nat) (cy : Nat → ClassId) (h0 : Nat) (k0 : Nat) (k1 : Nat) (k2 : Nat) (k3 : Nat) (sz : Nat)  : Met l yX5_init wsX5_init ({ frames := 1, cells := 36, slots := 1354, locals := 23 }) (va_Pc [.ref h0, .ref k0, .ref k1, .ref k2, .ref k3] (wPre (dC, dI) cy [(h0, .inr (5, [.null, .int 0, .null, .int 0, .null, .null, .null, .null, .null, .null]))] sz)) (va_Qv (fun (u : Nat → Nat) => True) (fun (u : Nat → Nat) t => wAt (dC, dI) (va_A [(h0, .inr (5, [.null, .int 0, .null, .int 0, .null, .null, .null, .null, .null, .null]))] sz) [(h0, .inr (5, [.ref (u 0), .int 0, .ref (u 1), .int 0, .ref (u 2), .ref (u 3), .ref k0, .ref k1, .ref k2, .ref k3]))] t) (va_A [(h0, .inr (5, [.null, .int 0, .null, .int 0, .null, .null, .null, .null, .null, .null]))] sz)) 36 1354 (va_A [(h0, .inr (5, [.null, .int 0, .null, .int 0, .null, .null, .null, .null, .null, .null]))] sz) := by
  refine Met.ofW (cc := cX5_init) (maxL := 5) (ret := none) (by decide) rfl ?_
  intro p e s m args below meth c s₁ B hml hv
  obtain ⟨rfl, hsz, hP, hK, hD0, hN⟩ := hv
  have hx := B.exec
  have hb := B.bytes
  have hr := B.returns
  have hts := atoms_spec (ws := wsX5_init) B.pre
  have hown : s.vm.findClass RX5 = some m.cls := findClass_of_methodNamed B.named
  have hlocks := B.notSynchronized
  subst hsz
  have hin : meth.name = "<init>" := (name_of_methodNamed B.named B.method).1
  have hD := hD0.self (sz := s.heap.size)
  generalize hAe : va_A [(h0, .inr (5, [.null, .int 0, .null, .int 0, .null, .null, .null, .null, .null, .null]))] s.heap.size = A at hD ⊢
  have hA : ∀ q : Nat, s.heap.size ≤ q → A q := fun q h => by rw [← hAe]; exact Or.inr h
  have hS : va_S A s.heap s.heap [] := va_S.rf
  have hl := lv_entry ([.ref h0, .ref k0, .ref k1, .ref k2, .ref k3]) (n := 5) (Nat.le_of_ble_eq_true rfl)
  rw [lg_entry_eq]
  generalize (lg_sl ([.ref h0, .ref k0, .ref k1, .ref k2, .ref k3]) ++ List.replicate (5 - (lg_sl ([.ref h0, .ref k0, .ref k1, .ref k2, .ref k3])).length) Slot.unset).toArray = ls at hl ⊢
  have hl : lv_has ls 5 [(0, .ref h0), (1, .ref k0), (2, .ref k1), (3, .ref k2), (4, .ref k3)] := hl
  refine lv_aload_n hx hb dX5_init_0 rfl (lv_at hl 0 rfl) ?_
  refine W.objInit hx hb hown (hts (.methodLink RX5 3 objectInit) (List.mem_of_getElem? (i := 1) rfl)) (hts (.instanceMethod objectInit) (List.mem_of_getElem? (i := 2) rfl)) (hts (.code objectInit ⟨#[0xb1]⟩ 1 none) (List.mem_of_getElem? (i := 3) rfl)) rfl (hl.1.trans hml.symm) rfl dX5_init_1 (Nat.le_of_ble_eq_true rfl) (Nat.le_of_ble_eq_true rfl) ?_
  refine lv_aload_n hx hb dX5_init_4 rfl (lv_at hl 0 rfl) ?_
  refine lv_iconst (v := 5) hx hb dX5_init_5 (by decide) ?_
  refine vz_newa (atype := .int) (ty := .int) (t0 := 0) (N' := 5) (a0 := (5, .inl (fun _ => 0))) hx hb (hts (.arrayClass .int) (List.mem_of_getElem? (i := 4) rfl)) rfl rfl hK hP hD hS hA (fun _ => rfl) (by decide) rfl (by decide) (Nat.le_of_ble_eq_true rfl) (Nat.le_of_ble_eq_true rfl) dX5_init_6 (fun q_1 H hP hD hS => ?_)
  have hP : va_P (dC, dI) vwCl [(h0, .inr (5, [.null, .int 0, .null, .int 0, .null, .null, .null, .null, .null, .null])), (q_1, .inl (cy 0, 5, .inl (fun _ => 0)))] H := hP
  have hD : va_D A [(h0, .inr (5, [.null, .int 0, .null, .int 0, .null, .null, .null, .null, .null, .null])), (q_1, .inl (cy 0, 5, .inl (fun _ => 0)))] := hD
  refine W.widen (k := 1) (n := 5) (Nat.le_of_ble_eq_true rfl) (Nat.le_of_ble_eq_true rfl) ?_
  refine va_putF (D := (dC, dI)) (ci := 5) (v := .ref q_1) (C := RX5) (T := TX5) (N := 10) hx hb hts (fun _ h9 => List.mem_cons_of_mem _ (List.mem_append_right _ h9)) tyX5 tyX5_ok nmX5 hown hK hP hD hS 0 rfl rfl 0 (by decide) (hts (.fieldLink RX5 9 "SeatsRound$Orders" "told" "[I") (List.mem_of_getElem? (i := 5) rfl)) (fun _ h9 => h9) rfl hin rfl (tyX5_ok 0 (by decide)) rfl rfl (Nat.le_of_ble_eq_true rfl) dX5_init_8 (fun H locs hP hD hS => ?_)
  have hP : va_P (dC, dI) vwCl [(h0, .inr (5, [.ref q_1, .int 0, .null, .int 0, .null, .null, .null, .null, .null, .null])), (q_1, .inl (cy 0, 5, .inl (fun _ => 0)))] H := hP
  have hD : va_D A [(h0, .inr (5, [.ref q_1, .int 0, .null, .int 0, .null, .null, .null, .null, .null, .null])), (q_1, .inl (cy 0, 5, .inl (fun _ => 0)))] := hD
  have hP := hP.sub (ws' := [(h0, .inr (5, [.ref q_1, .int 0, .null, .int 0, .null, .null, .null, .null, .null, .null]))]) [0] rfl
  have hD := hD.sub (ws' := [(h0, .inr (5, [.ref q_1, .int 0, .null, .int 0, .null, .null, .null, .null, .null, .null]))]) [0] (by decide) rfl
  refine lv_aload_n hx hb dX5_init_11 rfl (lv_at hl 0 rfl) ?_
  refine lv_iconst (v := 0) hx hb dX5_init_12 (by decide) ?_
  refine va_put (D := (dC, dI)) (ci := 5) (v := .int 0) (C := RX5) (T := TX5) (N := 10) hx hb hts (fun _ h9 => List.mem_cons_of_mem _ (List.mem_append_right _ h9)) tyX5 tyX5_ok nmX5 hown hK hP hD hS 0 rfl rfl 1 (by decide) (hts (.fieldLink RX5 15 "SeatsRound$Orders" "toldCount" "I") (List.mem_of_getElem? (i := 6) rfl)) (fun _ h9 => h9) rfl (tyX5_ok 1 (by decide)) rfl rfl (Nat.le_of_ble_eq_true rfl) dX5_init_13 (fun H locs hP hD hS => ?_)
  have hP : va_P (dC, dI) vwCl [(h0, .inr (5, [.ref q_1, .int 0, .null, .int 0, .null, .null, .null, .null, .null, .null]))] H := hP
  have hD : va_D A [(h0, .inr (5, [.ref q_1, .int 0, .null, .int 0, .null, .null, .null, .null, .null, .null]))] := hD
  refine lv_aload_n hx hb dX5_init_16 rfl (lv_at hl 0 rfl) ?_
  refine lv_iconst (v := 5) hx hb dX5_init_17 (by decide) ?_
  refine vz_newa (atype := .int) (ty := .int) (t0 := 0) (N' := 5) (a0 := (5, .inl (fun _ => 0))) hx hb (hts (.arrayClass .int) (List.mem_of_getElem? (i := 4) rfl)) rfl rfl hK hP hD hS hA (fun _ => rfl) (by decide) rfl (by decide) (Nat.le_of_ble_eq_true rfl) (Nat.le_of_ble_eq_true rfl) dX5_init_18 (fun q_2 H hP hD hS => ?_)
  have hP : va_P (dC, dI) vwCl [(h0, .inr (5, [.ref q_1, .int 0, .null, .int 0, .null, .null, .null, .null, .null, .null])), (q_2, .inl (cy 0, 5, .inl (fun _ => 0)))] H := hP
  have hD : va_D A [(h0, .inr (5, [.ref q_1, .int 0, .null, .int 0, .null, .null, .null, .null, .null, .null])), (q_2, .inl (cy 0, 5, .inl (fun _ => 0)))] := hD
  refine W.widen (k := 2) (n := 10) (Nat.le_of_ble_eq_true rfl) (Nat.le_of_ble_eq_true rfl) ?_
  refine va_putF (D := (dC, dI)) (ci := 5) (v := .ref q_2) (C := RX5) (T := TX5) (N := 10) hx hb hts (fun _ h9 => List.mem_cons_of_mem _ (List.mem_append_right _ h9)) tyX5 tyX5_ok nmX5 hown hK hP hD hS 0 rfl rfl 2 (by decide) (hts (.fieldLink RX5 19 "SeatsRound$Orders" "path" "[I") (List.mem_of_getElem? (i := 7) rfl)) (fun _ h9 => h9) rfl hin rfl (tyX5_ok 2 (by decide)) rfl rfl (Nat.le_of_ble_eq_true rfl) dX5_init_20 (fun H locs hP hD hS => ?_)
  have hP : va_P (dC, dI) vwCl [(h0, .inr (5, [.ref q_1, .int 0, .ref q_2, .int 0, .null, .null, .null, .null, .null, .null])), (q_2, .inl (cy 0, 5, .inl (fun _ => 0)))] H := hP
  have hD : va_D A [(h0, .inr (5, [.ref q_1, .int 0, .ref q_2, .int 0, .null, .null, .null, .null, .null, .null])), (q_2, .inl (cy 0, 5, .inl (fun _ => 0)))] := hD
  have hP := hP.sub (ws' := [(h0, .inr (5, [.ref q_1, .int 0, .ref q_2, .int 0, .null, .null, .null, .null, .null, .null]))]) [0] rfl
  have hD := hD.sub (ws' := [(h0, .inr (5, [.ref q_1, .int 0, .ref q_2, .int 0, .null, .null, .null, .null, .null, .null]))]) [0] (by decide) rfl
  refine lv_aload_n hx hb dX5_init_23 rfl (lv_at hl 0 rfl) ?_
  refine lv_iconst (v := 0) hx hb dX5_init_24 (by decide) ?_
  refine va_put (D := (dC, dI)) (ci := 5) (v := .int 0) (C := RX5) (T := TX5) (N := 10) hx hb hts (fun _ h9 => List.mem_cons_of_mem _ (List.mem_append_right _ h9)) tyX5 tyX5_ok nmX5 hown hK hP hD hS 0 rfl rfl 3 (by decide) (hts (.fieldLink RX5 22 "SeatsRound$Orders" "pathLength" "I") (List.mem_of_getElem? (i := 8) rfl)) (fun _ h9 => h9) rfl (tyX5_ok 3 (by decide)) rfl rfl (Nat.le_of_ble_eq_true rfl) dX5_init_25 (fun H locs hP hD hS => ?_)
  have hP : va_P (dC, dI) vwCl [(h0, .inr (5, [.ref q_1, .int 0, .ref q_2, .int 0, .null, .null, .null, .null, .null, .null]))] H := hP
  have hD : va_D A [(h0, .inr (5, [.ref q_1, .int 0, .ref q_2, .int 0, .null, .null, .null, .null, .null, .null]))] := hD
  refine lv_aload_n hx hb dX5_init_28 rfl (lv_at hl 0 rfl) ?_
  refine lv_bipush (v := 32) hx hb dX5_init_29 (by decide) ?_
  refine lv_bipush (v := 40) hx hb dX5_init_31 (by decide) ?_
  refine vz_mna (t0 := 6) (t1 := 0) (N' := 32) (K' := 40) (z := (40, .inl (fun _ => 0))) (ty := .int) hx hb hown (hts (.classLink RX5 25 "[[I") (List.mem_of_getElem? (i := 9) rfl)) hN.2.2.2.1 (hts (.arrayClass .int) (List.mem_of_getElem? (i := 4) rfl)) rfl (hK.2 0 _ rfl).2 hK hP hD hS hA (by decide) (by decide) rfl rfl (by decide) (by decide) (by decide) rfl rfl (Nat.le_of_ble_eq_true rfl) (Nat.le_of_ble_eq_true rfl) (fun _ => rfl) dX5_init_33 (fun q_3 r_4 H hP hD hS => ?_)
  have hP := va_P.take 2 hP
  have hD := va_D.take 2 hD
  have hP : va_P (dC, dI) vwCl [(h0, .inr (5, [.ref q_1, .int 0, .ref q_2, .int 0, .null, .null, .null, .null, .null, .null])), (q_3, .inl (cy 6, 32, .inr (.inr (.inr (.inr (fun i => if i < 32 then some (r_4 i) else none))))))] H := hP
  have hD : va_D A [(h0, .inr (5, [.ref q_1, .int 0, .ref q_2, .int 0, .null, .null, .null, .null, .null, .null])), (q_3, .inl (cy 6, 32, .inr (.inr (.inr (.inr (fun i => if i < 32 then some (r_4 i) else none))))))] := hD
  refine W.widen (k := 35) (n := 1322) (Nat.le_of_ble_eq_true rfl) (Nat.le_of_ble_eq_true rfl) ?_
  refine va_putF (D := (dC, dI)) (ci := 5) (v := .ref q_3) (C := RX5) (T := TX5) (N := 10) hx hb hts (fun _ h9 => List.mem_cons_of_mem _ (List.mem_append_right _ h9)) tyX5 tyX5_ok nmX5 hown hK hP hD hS 0 rfl rfl 4 (by decide) (hts (.fieldLink RX5 27 "SeatsRound$Orders" "holders" "[[I") (List.mem_of_getElem? (i := 10) rfl)) (fun _ h9 => h9) rfl hin rfl (tyX5_ok 4 (by decide)) rfl rfl (Nat.le_of_ble_eq_true rfl) dX5_init_37 (fun H locs hP hD hS => ?_)
  have hP : va_P (dC, dI) vwCl [(h0, .inr (5, [.ref q_1, .int 0, .ref q_2, .int 0, .ref q_3, .null, .null, .null, .null, .null])), (q_3, .inl (cy 6, 32, .inr (.inr (.inr (.inr (fun i => if i < 32 then some (r_4 i) else none))))))] H := hP
  have hD : va_D A [(h0, .inr (5, [.ref q_1, .int 0, .ref q_2, .int 0, .ref q_3, .null, .null, .null, .null, .null])), (q_3, .inl (cy 6, 32, .inr (.inr (.inr (.inr (fun i => if i < 32 then some (r_4 i) else none))))))] := hD
  have hP := hP.sub (ws' := [(h0, .inr (5, [.ref q_1, .int 0, .ref q_2, .int 0, .ref q_3, .null, .null, .null, .null, .null]))]) [0] rfl
  have hD := hD.sub (ws' := [(h0, .inr (5, [.ref q_1, .int 0, .ref q_2, .int 0, .ref q_3, .null, .null, .null, .null, .null]))]) [0] (by decide) rfl
  refine lv_aload_n hx hb dX5_init_40 rfl (lv_at hl 0 rfl) ?_
  refine lv_bipush (v := 32) hx hb dX5_init_41 (by decide) ?_
  refine vz_newa (atype := .int) (ty := .int) (t0 := 0) (N' := 32) (a0 := (32, .inl (fun _ => 0))) hx hb (hts (.arrayClass .int) (List.mem_of_getElem? (i := 4) rfl)) rfl rfl hK hP hD hS hA (fun _ => rfl) (by decide) rfl (by decide) (Nat.le_of_ble_eq_true rfl) (Nat.le_of_ble_eq_true rfl) dX5_init_43 (fun q_5 H hP hD hS => ?_)
  have hP : va_P (dC, dI) vwCl [(h0, .inr (5, [.ref q_1, .int 0, .ref q_2, .int 0, .ref q_3, .null, .null, .null, .null, .null])), (q_5, .inl (cy 0, 32, .inl (fun _ => 0)))] H := hP
  have hD : va_D A [(h0, .inr (5, [.ref q_1, .int 0, .ref q_2, .int 0, .ref q_3, .null, .null, .null, .null, .null])), (q_5, .inl (cy 0, 32, .inl (fun _ => 0)))] := hD
  refine W.widen (k := 36) (n := 1354) (Nat.le_of_ble_eq_true rfl) (Nat.le_of_ble_eq_true rfl) ?_
  refine va_putF (D := (dC, dI)) (ci := 5) (v := .ref q_5) (C := RX5) (T := TX5) (N := 10) hx hb hts (fun _ h9 => List.mem_cons_of_mem _ (List.mem_append_right _ h9)) tyX5 tyX5_ok nmX5 hown hK hP hD hS 0 rfl rfl 5 (by decide) (hts (.fieldLink RX5 30 "SeatsRound$Orders" "least" "[I") (List.mem_of_getElem? (i := 11) rfl)) (fun _ h9 => h9) rfl hin rfl (tyX5_ok 5 (by decide)) rfl rfl (Nat.le_of_ble_eq_true rfl) dX5_init_45 (fun H locs hP hD hS => ?_)
  have hP : va_P (dC, dI) vwCl [(h0, .inr (5, [.ref q_1, .int 0, .ref q_2, .int 0, .ref q_3, .ref q_5, .null, .null, .null, .null])), (q_5, .inl (cy 0, 32, .inl (fun _ => 0)))] H := hP
  have hD : va_D A [(h0, .inr (5, [.ref q_1, .int 0, .ref q_2, .int 0, .ref q_3, .ref q_5, .null, .null, .null, .null])), (q_5, .inl (cy 0, 32, .inl (fun _ => 0)))] := hD
  have hP := hP.sub (ws' := [(h0, .inr (5, [.ref q_1, .int 0, .ref q_2, .int 0, .ref q_3, .ref q_5, .null, .null, .null, .null]))]) [0] rfl
  have hD := hD.sub (ws' := [(h0, .inr (5, [.ref q_1, .int 0, .ref q_2, .int 0, .ref q_3, .ref q_5, .null, .null, .null, .null]))]) [0] (by decide) rfl
  refine lv_aload_n hx hb dX5_init_48 rfl (lv_at hl 0 rfl) ?_
  refine lv_aload_n hx hb dX5_init_49 rfl (lv_at hl 1 rfl) ?_
  refine va_putF (D := (dC, dI)) (ci := 5) (v := .ref k0) (C := RX5) (T := TX5) (N := 10) hx hb hts (fun _ h9 => List.mem_cons_of_mem _ (List.mem_append_right _ h9)) tyX5 tyX5_ok nmX5 hown hK hP hD hS 0 rfl rfl 6 (by decide) (hts (.fieldLink RX5 33 "SeatsRound$Orders" "keepers" "LSeatsRound$Keepers;") (List.mem_of_getElem? (i := 12) rfl)) (fun _ h9 => h9) rfl hin rfl (tyX5_ok 6 (by decide)) rfl rfl (Nat.le_of_ble_eq_true rfl) dX5_init_50 (fun H locs hP hD hS => ?_)
  have hP : va_P (dC, dI) vwCl [(h0, .inr (5, [.ref q_1, .int 0, .ref q_2, .int 0, .ref q_3, .ref q_5, .ref k0, .null, .null, .null]))] H := hP
  have hD : va_D A [(h0, .inr (5, [.ref q_1, .int 0, .ref q_2, .int 0, .ref q_3, .ref q_5, .ref k0, .null, .null, .null]))] := hD
  refine lv_aload_n hx hb dX5_init_53 rfl (lv_at hl 0 rfl) ?_
  refine lv_aload_n hx hb dX5_init_54 rfl (lv_at hl 2 rfl) ?_
  refine va_putF (D := (dC, dI)) (ci := 5) (v := .ref k1) (C := RX5) (T := TX5) (N := 10) hx hb hts (fun _ h9 => List.mem_cons_of_mem _ (List.mem_append_right _ h9)) tyX5 tyX5_ok nmX5 hown hK hP hD hS 0 rfl rfl 7 (by decide) (hts (.fieldLink RX5 37 "SeatsRound$Orders" "nameList" "LSeatsRound$NameList;") (List.mem_of_getElem? (i := 13) rfl)) (fun _ h9 => h9) rfl hin rfl (tyX5_ok 7 (by decide)) rfl rfl (Nat.le_of_ble_eq_true rfl) dX5_init_55 (fun H locs hP hD hS => ?_)
  have hP : va_P (dC, dI) vwCl [(h0, .inr (5, [.ref q_1, .int 0, .ref q_2, .int 0, .ref q_3, .ref q_5, .ref k0, .ref k1, .null, .null]))] H := hP
  have hD : va_D A [(h0, .inr (5, [.ref q_1, .int 0, .ref q_2, .int 0, .ref q_3, .ref q_5, .ref k0, .ref k1, .null, .null]))] := hD
  refine lv_aload_n hx hb dX5_init_58 rfl (lv_at hl 0 rfl) ?_
  refine lv_aload_n hx hb dX5_init_59 rfl (lv_at hl 3 rfl) ?_
  refine va_putF (D := (dC, dI)) (ci := 5) (v := .ref k2) (C := RX5) (T := TX5) (N := 10) hx hb hts (fun _ h9 => List.mem_cons_of_mem _ (List.mem_append_right _ h9)) tyX5 tyX5_ok nmX5 hown hK hP hD hS 0 rfl rfl 8 (by decide) (hts (.fieldLink RX5 41 "SeatsRound$Orders" "choice" "LSeatsRound$Choice;") (List.mem_of_getElem? (i := 14) rfl)) (fun _ h9 => h9) rfl hin rfl (tyX5_ok 8 (by decide)) rfl rfl (Nat.le_of_ble_eq_true rfl) dX5_init_60 (fun H locs hP hD hS => ?_)
  have hP : va_P (dC, dI) vwCl [(h0, .inr (5, [.ref q_1, .int 0, .ref q_2, .int 0, .ref q_3, .ref q_5, .ref k0, .ref k1, .ref k2, .null]))] H := hP
  have hD : va_D A [(h0, .inr (5, [.ref q_1, .int 0, .ref q_2, .int 0, .ref q_3, .ref q_5, .ref k0, .ref k1, .ref k2, .null]))] := hD
  refine lv_aload_n hx hb dX5_init_63 rfl (lv_at hl 0 rfl) ?_
  refine lv_aload hx hb dX5_init_64 (lv_at hl 4 rfl) ?_
  refine va_putF (D := (dC, dI)) (ci := 5) (v := .ref k3) (C := RX5) (T := TX5) (N := 10) hx hb hts (fun _ h9 => List.mem_cons_of_mem _ (List.mem_append_right _ h9)) tyX5 tyX5_ok nmX5 hown hK hP hD hS 0 rfl rfl 9 (by decide) (hts (.fieldLink RX5 45 "SeatsRound$Orders" "law" "LSeatsRound$Law;") (List.mem_of_getElem? (i := 15) rfl)) (fun _ h9 => h9) rfl hin rfl (tyX5_ok 9 (by decide)) rfl rfl (Nat.le_of_ble_eq_true rfl) dX5_init_66 (fun H locs hP hD hS => ?_)
  have hP : va_P (dC, dI) vwCl [(h0, .inr (5, [.ref q_1, .int 0, .ref q_2, .int 0, .ref q_3, .ref q_5, .ref k0, .ref k1, .ref k2, .ref k3]))] H := hP
  have hD : va_D A [(h0, .inr (5, [.ref q_1, .int 0, .ref q_2, .int 0, .ref q_3, .ref q_5, .ref k0, .ref k1, .ref k2, .ref k3]))] := hD
  have hP9 := hP.sub (ws' := [(h0, .inr (5, [.ref q_1, .int 0, .ref q_2, .int 0, .ref q_3, .ref q_5, .ref k0, .ref k1, .ref k2, .ref k3]))]) [0] rfl
  have hD9 := hD.sub (ws' := [(h0, .inr (5, [.ref q_1, .int 0, .ref q_2, .int 0, .ref q_3, .ref q_5, .ref k0, .ref k1, .ref k2, .ref k3]))]) [0] (by decide) rfl
  exact W.vret hx hb hr (fun t ht hW => ⟨⟨(fun k => [q_1, q_2, q_3, q_5].getD k 0), rfl, trivial, ⟨by rw [ht]; exact hP9, hD9⟩⟩, hS.F ht⟩) hS.2.2 dX5_init_69
set_option maxHeartbeats 4000000 in
set_option maxRecDepth 100000 in
theorem c_Turnings_init (l : Launch) (dC : Nat → ClassId) (dI : Nat → Nat → Nat) (cy : Nat → ClassId) (h0 : Nat) (k0 : Nat) (sz : Nat)  : Met l yX10_init wsX10_init ({ frames := 1, cells := 2, slots := 18, locals := 23 }) (va_Pc [.ref h0, .ref k0] (wPre (dC, dI) cy [(h0, .inr (10, [.null, .int 0, .int 0, .null, .null]))] sz)) (va_Qv (fun (u : Nat → Nat) => True) (fun (u : Nat → Nat) t => wAt (dC, dI) (va_A [(h0, .inr (10, [.null, .int 0, .int 0, .null, .null]))] sz) [(h0, .inr (10, [.ref (u 0), .int 0, .int (-1), .ref (u 1), .ref k0])), ((u 0), .inl (cy 0, 6, .inl (fun _ => 0)))] t) (va_A [(h0, .inr (10, [.null, .int 0, .int 0, .null, .null]))] sz)) 2 18 (va_A [(h0, .inr (10, [.null, .int 0, .int 0, .null, .null]))] sz) := by
  refine Met.ofW (cc := cX10_init) (maxL := 2) (ret := none) (by decide) rfl ?_
  intro p e s m args below meth c s₁ B hml hv
  obtain ⟨rfl, hsz, hP, hK, hD0, hN⟩ := hv
  have hx := B.exec
  have hb := B.bytes
  have hr := B.returns
  have hts := atoms_spec (ws := wsX10_init) B.pre
  have hown : s.vm.findClass RX10 = some m.cls := findClass_of_methodNamed B.named
  have hlocks := B.notSynchronized
  subst hsz
  have hin : meth.name = "<init>" := (name_of_methodNamed B.named B.method).1
  have hD := hD0.self (sz := s.heap.size)
  generalize hAe : va_A [(h0, .inr (10, [.null, .int 0, .int 0, .null, .null]))] s.heap.size = A at hD ⊢
  have hA : ∀ q : Nat, s.heap.size ≤ q → A q := fun q h => by rw [← hAe]; exact Or.inr h
  have hS : va_S A s.heap s.heap [] := va_S.rf
  have hl := lv_entry ([.ref h0, .ref k0]) (n := 2) (Nat.le_of_ble_eq_true rfl)
  rw [lg_entry_eq]
  generalize (lg_sl ([.ref h0, .ref k0]) ++ List.replicate (2 - (lg_sl ([.ref h0, .ref k0])).length) Slot.unset).toArray = ls at hl ⊢
  have hl : lv_has ls 2 [(0, .ref h0), (1, .ref k0)] := hl
  refine lv_aload_n hx hb dX10_init_0 rfl (lv_at hl 0 rfl) ?_
  refine W.objInit hx hb hown (hts (.methodLink RX10 3 objectInit) (List.mem_of_getElem? (i := 1) rfl)) (hts (.instanceMethod objectInit) (List.mem_of_getElem? (i := 2) rfl)) (hts (.code objectInit ⟨#[0xb1]⟩ 1 none) (List.mem_of_getElem? (i := 3) rfl)) rfl (hl.1.trans hml.symm) rfl dX10_init_1 (Nat.le_of_ble_eq_true rfl) (Nat.le_of_ble_eq_true rfl) ?_
  refine lv_aload_n hx hb dX10_init_4 rfl (lv_at hl 0 rfl) ?_
  refine lv_bipush (v := 6) hx hb dX10_init_5 (by decide) ?_
  refine vz_newa (atype := .int) (ty := .int) (t0 := 0) (N' := 6) (a0 := (6, .inl (fun _ => 0))) hx hb (hts (.arrayClass .int) (List.mem_of_getElem? (i := 4) rfl)) rfl rfl hK hP hD hS hA (fun _ => rfl) (by decide) rfl (by decide) (Nat.le_of_ble_eq_true rfl) (Nat.le_of_ble_eq_true rfl) dX10_init_7 (fun q_1 H hP hD hS => ?_)
  have hP : va_P (dC, dI) vwCl [(h0, .inr (10, [.null, .int 0, .int 0, .null, .null])), (q_1, .inl (cy 0, 6, .inl (fun _ => 0)))] H := hP
  have hD : va_D A [(h0, .inr (10, [.null, .int 0, .int 0, .null, .null])), (q_1, .inl (cy 0, 6, .inl (fun _ => 0)))] := hD
  refine W.widen (k := 1) (n := 6) (Nat.le_of_ble_eq_true rfl) (Nat.le_of_ble_eq_true rfl) ?_
  refine va_putF (D := (dC, dI)) (ci := 10) (v := .ref q_1) (C := RX10) (T := TX10) (N := 5) hx hb hts (fun _ h9 => List.mem_cons_of_mem _ (List.mem_append_right _ h9)) tyX10 tyX10_ok nmX10 hown hK hP hD hS 0 rfl rfl 0 (by decide) (hts (.fieldLink RX10 9 "SeatsRound$Turnings" "told" "[I") (List.mem_of_getElem? (i := 5) rfl)) (fun _ h9 => h9) rfl hin rfl (tyX10_ok 0 (by decide)) rfl rfl (Nat.le_of_ble_eq_true rfl) dX10_init_9 (fun H locs hP hD hS => ?_)
  have hP : va_P (dC, dI) vwCl [(h0, .inr (10, [.ref q_1, .int 0, .int 0, .null, .null])), (q_1, .inl (cy 0, 6, .inl (fun _ => 0)))] H := hP
  have hD : va_D A [(h0, .inr (10, [.ref q_1, .int 0, .int 0, .null, .null])), (q_1, .inl (cy 0, 6, .inl (fun _ => 0)))] := hD
  refine lv_aload_n hx hb dX10_init_12 rfl (lv_at hl 0 rfl) ?_
  refine lv_iconst (v := 0) hx hb dX10_init_13 (by decide) ?_
  refine va_put (D := (dC, dI)) (ci := 10) (v := .int 0) (C := RX10) (T := TX10) (N := 5) hx hb hts (fun _ h9 => List.mem_cons_of_mem _ (List.mem_append_right _ h9)) tyX10 tyX10_ok nmX10 hown hK hP hD hS 0 rfl rfl 1 (by decide) (hts (.fieldLink RX10 15 "SeatsRound$Turnings" "count" "I") (List.mem_of_getElem? (i := 6) rfl)) (fun _ h9 => h9) rfl (tyX10_ok 1 (by decide)) rfl rfl (Nat.le_of_ble_eq_true rfl) dX10_init_14 (fun H locs hP hD hS => ?_)
  have hP : va_P (dC, dI) vwCl [(h0, .inr (10, [.ref q_1, .int 0, .int 0, .null, .null])), (q_1, .inl (cy 0, 6, .inl (fun _ => 0)))] H := hP
  have hD : va_D A [(h0, .inr (10, [.ref q_1, .int 0, .int 0, .null, .null])), (q_1, .inl (cy 0, 6, .inl (fun _ => 0)))] := hD
  refine lv_aload_n hx hb dX10_init_17 rfl (lv_at hl 0 rfl) ?_
  refine lv_iconst (v := (-1)) hx hb dX10_init_18 (by decide) ?_
  refine va_put (D := (dC, dI)) (ci := 10) (v := .int (-1)) (C := RX10) (T := TX10) (N := 5) hx hb hts (fun _ h9 => List.mem_cons_of_mem _ (List.mem_append_right _ h9)) tyX10 tyX10_ok nmX10 hown hK hP hD hS 0 rfl rfl 2 (by decide) (hts (.fieldLink RX10 19 "SeatsRound$Turnings" "greatest" "I") (List.mem_of_getElem? (i := 7) rfl)) (fun _ h9 => h9) rfl (tyX10_ok 2 (by decide)) rfl rfl (Nat.le_of_ble_eq_true rfl) dX10_init_19 (fun H locs hP hD hS => ?_)
  have hP : va_P (dC, dI) vwCl [(h0, .inr (10, [.ref q_1, .int 0, .int (-1), .null, .null])), (q_1, .inl (cy 0, 6, .inl (fun _ => 0)))] H := hP
  have hD : va_D A [(h0, .inr (10, [.ref q_1, .int 0, .int (-1), .null, .null])), (q_1, .inl (cy 0, 6, .inl (fun _ => 0)))] := hD
  refine lv_aload_n hx hb dX10_init_22 rfl (lv_at hl 0 rfl) ?_
  refine lv_bipush (v := 12) hx hb dX10_init_23 (by decide) ?_
  refine vz_newa (atype := .int) (ty := .int) (t0 := 0) (N' := 12) (a0 := (12, .inl (fun _ => 0))) hx hb (hts (.arrayClass .int) (List.mem_of_getElem? (i := 4) rfl)) rfl rfl hK hP hD hS hA (fun _ => rfl) (by decide) rfl (by decide) (Nat.le_of_ble_eq_true rfl) (Nat.le_of_ble_eq_true rfl) dX10_init_25 (fun q_2 H hP hD hS => ?_)
  have hP : va_P (dC, dI) vwCl [(h0, .inr (10, [.ref q_1, .int 0, .int (-1), .null, .null])), (q_1, .inl (cy 0, 6, .inl (fun _ => 0))), (q_2, .inl (cy 0, 12, .inl (fun _ => 0)))] H := hP
  have hD : va_D A [(h0, .inr (10, [.ref q_1, .int 0, .int (-1), .null, .null])), (q_1, .inl (cy 0, 6, .inl (fun _ => 0))), (q_2, .inl (cy 0, 12, .inl (fun _ => 0)))] := hD
  refine W.widen (k := 2) (n := 18) (Nat.le_of_ble_eq_true rfl) (Nat.le_of_ble_eq_true rfl) ?_
  refine va_putF (D := (dC, dI)) (ci := 10) (v := .ref q_2) (C := RX10) (T := TX10) (N := 5) hx hb hts (fun _ h9 => List.mem_cons_of_mem _ (List.mem_append_right _ h9)) tyX10 tyX10_ok nmX10 hown hK hP hD hS 0 rfl rfl 3 (by decide) (hts (.fieldLink RX10 22 "SeatsRound$Turnings" "shares" "[I") (List.mem_of_getElem? (i := 8) rfl)) (fun _ h9 => h9) rfl hin rfl (tyX10_ok 3 (by decide)) rfl rfl (Nat.le_of_ble_eq_true rfl) dX10_init_27 (fun H locs hP hD hS => ?_)
  have hP : va_P (dC, dI) vwCl [(h0, .inr (10, [.ref q_1, .int 0, .int (-1), .ref q_2, .null])), (q_1, .inl (cy 0, 6, .inl (fun _ => 0))), (q_2, .inl (cy 0, 12, .inl (fun _ => 0)))] H := hP
  have hD : va_D A [(h0, .inr (10, [.ref q_1, .int 0, .int (-1), .ref q_2, .null])), (q_1, .inl (cy 0, 6, .inl (fun _ => 0))), (q_2, .inl (cy 0, 12, .inl (fun _ => 0)))] := hD
  have hP := hP.sub (ws' := [(h0, .inr (10, [.ref q_1, .int 0, .int (-1), .ref q_2, .null])), (q_1, .inl (cy 0, 6, .inl (fun _ => 0)))]) [0, 1] rfl
  have hD := hD.sub (ws' := [(h0, .inr (10, [.ref q_1, .int 0, .int (-1), .ref q_2, .null])), (q_1, .inl (cy 0, 6, .inl (fun _ => 0)))]) [0, 1] (by decide) rfl
  refine lv_aload_n hx hb dX10_init_30 rfl (lv_at hl 0 rfl) ?_
  refine lv_aload_n hx hb dX10_init_31 rfl (lv_at hl 1 rfl) ?_
  refine va_putF (D := (dC, dI)) (ci := 10) (v := .ref k0) (C := RX10) (T := TX10) (N := 5) hx hb hts (fun _ h9 => List.mem_cons_of_mem _ (List.mem_append_right _ h9)) tyX10 tyX10_ok nmX10 hown hK hP hD hS 0 rfl rfl 4 (by decide) (hts (.fieldLink RX10 25 "SeatsRound$Turnings" "nameList" "LSeatsRound$NameList;") (List.mem_of_getElem? (i := 9) rfl)) (fun _ h9 => h9) rfl hin rfl (tyX10_ok 4 (by decide)) rfl rfl (Nat.le_of_ble_eq_true rfl) dX10_init_32 (fun H locs hP hD hS => ?_)
  have hP : va_P (dC, dI) vwCl [(h0, .inr (10, [.ref q_1, .int 0, .int (-1), .ref q_2, .ref k0])), (q_1, .inl (cy 0, 6, .inl (fun _ => 0)))] H := hP
  have hD : va_D A [(h0, .inr (10, [.ref q_1, .int 0, .int (-1), .ref q_2, .ref k0])), (q_1, .inl (cy 0, 6, .inl (fun _ => 0)))] := hD
  have hP9 := hP.sub (ws' := [(h0, .inr (10, [.ref q_1, .int 0, .int (-1), .ref q_2, .ref k0])), (q_1, .inl (cy 0, 6, .inl (fun _ => 0)))]) [0, 1] rfl
  have hD9 := hD.sub (ws' := [(h0, .inr (10, [.ref q_1, .int 0, .int (-1), .ref q_2, .ref k0])), (q_1, .inl (cy 0, 6, .inl (fun _ => 0)))]) [0, 1] (by decide) rfl
  exact W.vret hx hb hr (fun t ht hW => ⟨⟨(fun k => [q_1, q_2].getD k 0), rfl, trivial, ⟨by rw [ht]; exact hP9, hD9⟩⟩, hS.F ht⟩) hS.2.2 dX10_init_35
set_option maxHeartbeats 4000000 in
set_option maxRecDepth 100000 in
theorem c_Acts_init (l : Launch) (dC : Nat → ClassId) (dI : Nat → Nat → Nat) (cy : Nat → ClassId) (h0 : Nat) (sz : Nat)  : Met l yX0_init wsX0_init ({ frames := 1, cells := 1, slots := 24, locals := 23 }) (va_Pc [.ref h0] (wPre (dC, dI) cy [(h0, .inr (0, [.null, .int 0, .int 0, .int 0, .int 0]))] sz)) (va_Qv (fun (u : Nat → Nat) => True) (fun (u : Nat → Nat) t => wAt (dC, dI) (va_A [(h0, .inr (0, [.null, .int 0, .int 0, .int 0, .int 0]))] sz) [(h0, .inr (0, [.ref (u 0), .int 0, .int 0, .int 0, .int 0]))] t) (va_A [(h0, .inr (0, [.null, .int 0, .int 0, .int 0, .int 0]))] sz)) 1 24 (va_A [(h0, .inr (0, [.null, .int 0, .int 0, .int 0, .int 0]))] sz) := by
  refine Met.ofW (cc := cX0_init) (maxL := 1) (ret := none) (by decide) rfl ?_
  intro p e s m args below meth c s₁ B hml hv
  obtain ⟨rfl, hsz, hP, hK, hD0, hN⟩ := hv
  have hx := B.exec
  have hb := B.bytes
  have hr := B.returns
  have hts := atoms_spec (ws := wsX0_init) B.pre
  have hown : s.vm.findClass RX0 = some m.cls := findClass_of_methodNamed B.named
  have hlocks := B.notSynchronized
  subst hsz
  have hin : meth.name = "<init>" := (name_of_methodNamed B.named B.method).1
  have hD := hD0.self (sz := s.heap.size)
  generalize hAe : va_A [(h0, .inr (0, [.null, .int 0, .int 0, .int 0, .int 0]))] s.heap.size = A at hD ⊢
  have hA : ∀ q : Nat, s.heap.size ≤ q → A q := fun q h => by rw [← hAe]; exact Or.inr h
  have hS : va_S A s.heap s.heap [] := va_S.rf
  have hl := lv_entry ([.ref h0]) (n := 1) (Nat.le_of_ble_eq_true rfl)
  rw [lg_entry_eq]
  generalize (lg_sl ([.ref h0]) ++ List.replicate (1 - (lg_sl ([.ref h0])).length) Slot.unset).toArray = ls at hl ⊢
  have hl : lv_has ls 1 [(0, .ref h0)] := hl
  refine lv_aload_n hx hb dX0_init_0 rfl (lv_at hl 0 rfl) ?_
  refine W.objInit hx hb hown (hts (.methodLink RX0 3 objectInit) (List.mem_of_getElem? (i := 1) rfl)) (hts (.instanceMethod objectInit) (List.mem_of_getElem? (i := 2) rfl)) (hts (.code objectInit ⟨#[0xb1]⟩ 1 none) (List.mem_of_getElem? (i := 3) rfl)) rfl (hl.1.trans hml.symm) rfl dX0_init_1 (Nat.le_of_ble_eq_true rfl) (Nat.le_of_ble_eq_true rfl) ?_
  refine lv_aload_n hx hb dX0_init_4 rfl (lv_at hl 0 rfl) ?_
  refine lv_bipush (v := 24) hx hb dX0_init_5 (by decide) ?_
  refine vz_newa (atype := .int) (ty := .int) (t0 := 0) (N' := 24) (a0 := (24, .inl (fun _ => 0))) hx hb (hts (.arrayClass .int) (List.mem_of_getElem? (i := 4) rfl)) rfl rfl hK hP hD hS hA (fun _ => rfl) (by decide) rfl (by decide) (Nat.le_of_ble_eq_true rfl) (Nat.le_of_ble_eq_true rfl) dX0_init_7 (fun q_1 H hP hD hS => ?_)
  have hP : va_P (dC, dI) vwCl [(h0, .inr (0, [.null, .int 0, .int 0, .int 0, .int 0])), (q_1, .inl (cy 0, 24, .inl (fun _ => 0)))] H := hP
  have hD : va_D A [(h0, .inr (0, [.null, .int 0, .int 0, .int 0, .int 0])), (q_1, .inl (cy 0, 24, .inl (fun _ => 0)))] := hD
  refine W.widen (k := 1) (n := 24) (Nat.le_of_ble_eq_true rfl) (Nat.le_of_ble_eq_true rfl) ?_
  refine va_putF (D := (dC, dI)) (ci := 0) (v := .ref q_1) (C := RX0) (T := TX0) (N := 5) hx hb hts (fun _ h9 => List.mem_cons_of_mem _ (List.mem_append_right _ h9)) tyX0 tyX0_ok nmX0 hown hK hP hD hS 0 rfl rfl 0 (by decide) (hts (.fieldLink RX0 9 "SeatsRound$Acts" "bodies" "[I") (List.mem_of_getElem? (i := 5) rfl)) (fun _ h9 => h9) rfl hin rfl (tyX0_ok 0 (by decide)) rfl rfl (Nat.le_of_ble_eq_true rfl) dX0_init_9 (fun H locs hP hD hS => ?_)
  have hP : va_P (dC, dI) vwCl [(h0, .inr (0, [.ref q_1, .int 0, .int 0, .int 0, .int 0])), (q_1, .inl (cy 0, 24, .inl (fun _ => 0)))] H := hP
  have hD : va_D A [(h0, .inr (0, [.ref q_1, .int 0, .int 0, .int 0, .int 0])), (q_1, .inl (cy 0, 24, .inl (fun _ => 0)))] := hD
  have hP := hP.sub (ws' := [(h0, .inr (0, [.ref q_1, .int 0, .int 0, .int 0, .int 0]))]) [0] rfl
  have hD := hD.sub (ws' := [(h0, .inr (0, [.ref q_1, .int 0, .int 0, .int 0, .int 0]))]) [0] (by decide) rfl
  refine lv_aload_n hx hb dX0_init_12 rfl (lv_at hl 0 rfl) ?_
  refine lv_iconst (v := 0) hx hb dX0_init_13 (by decide) ?_
  refine va_put (D := (dC, dI)) (ci := 0) (v := .int 0) (C := RX0) (T := TX0) (N := 5) hx hb hts (fun _ h9 => List.mem_cons_of_mem _ (List.mem_append_right _ h9)) tyX0 tyX0_ok nmX0 hown hK hP hD hS 0 rfl rfl 1 (by decide) (hts (.fieldLink RX0 15 "SeatsRound$Acts" "ran" "I") (List.mem_of_getElem? (i := 6) rfl)) (fun _ h9 => h9) rfl (tyX0_ok 1 (by decide)) rfl rfl (Nat.le_of_ble_eq_true rfl) dX0_init_14 (fun H locs hP hD hS => ?_)
  have hP : va_P (dC, dI) vwCl [(h0, .inr (0, [.ref q_1, .int 0, .int 0, .int 0, .int 0]))] H := hP
  have hD : va_D A [(h0, .inr (0, [.ref q_1, .int 0, .int 0, .int 0, .int 0]))] := hD
  refine lv_aload_n hx hb dX0_init_17 rfl (lv_at hl 0 rfl) ?_
  refine lv_iconst (v := 0) hx hb dX0_init_18 (by decide) ?_
  refine va_put (D := (dC, dI)) (ci := 0) (v := .int 0) (C := RX0) (T := TX0) (N := 5) hx hb hts (fun _ h9 => List.mem_cons_of_mem _ (List.mem_append_right _ h9)) tyX0 tyX0_ok nmX0 hown hK hP hD hS 0 rfl rfl 2 (by decide) (hts (.fieldLink RX0 19 "SeatsRound$Acts" "own" "I") (List.mem_of_getElem? (i := 7) rfl)) (fun _ h9 => h9) rfl (tyX0_ok 2 (by decide)) rfl rfl (Nat.le_of_ble_eq_true rfl) dX0_init_19 (fun H locs hP hD hS => ?_)
  have hP : va_P (dC, dI) vwCl [(h0, .inr (0, [.ref q_1, .int 0, .int 0, .int 0, .int 0]))] H := hP
  have hD : va_D A [(h0, .inr (0, [.ref q_1, .int 0, .int 0, .int 0, .int 0]))] := hD
  refine lv_aload_n hx hb dX0_init_22 rfl (lv_at hl 0 rfl) ?_
  refine lv_iconst (v := 0) hx hb dX0_init_23 (by decide) ?_
  refine va_put (D := (dC, dI)) (ci := 0) (v := .int 0) (C := RX0) (T := TX0) (N := 5) hx hb hts (fun _ h9 => List.mem_cons_of_mem _ (List.mem_append_right _ h9)) tyX0 tyX0_ok nmX0 hown hK hP hD hS 0 rfl rfl 3 (by decide) (hts (.fieldLink RX0 22 "SeatsRound$Acts" "number" "I") (List.mem_of_getElem? (i := 8) rfl)) (fun _ h9 => h9) rfl (tyX0_ok 3 (by decide)) rfl rfl (Nat.le_of_ble_eq_true rfl) dX0_init_24 (fun H locs hP hD hS => ?_)
  have hP : va_P (dC, dI) vwCl [(h0, .inr (0, [.ref q_1, .int 0, .int 0, .int 0, .int 0]))] H := hP
  have hD : va_D A [(h0, .inr (0, [.ref q_1, .int 0, .int 0, .int 0, .int 0]))] := hD
  refine lv_aload_n hx hb dX0_init_27 rfl (lv_at hl 0 rfl) ?_
  refine lv_iconst (v := 0) hx hb dX0_init_28 (by decide) ?_
  refine va_put (D := (dC, dI)) (ci := 0) (v := .int 0) (C := RX0) (T := TX0) (N := 5) hx hb hts (fun _ h9 => List.mem_cons_of_mem _ (List.mem_append_right _ h9)) tyX0 tyX0_ok nmX0 hown hK hP hD hS 0 rfl rfl 4 (by decide) (hts (.fieldLink RX0 25 "SeatsRound$Acts" "strength" "I") (List.mem_of_getElem? (i := 9) rfl)) (fun _ h9 => h9) rfl (tyX0_ok 4 (by decide)) rfl rfl (Nat.le_of_ble_eq_true rfl) dX0_init_29 (fun H locs hP hD hS => ?_)
  have hP : va_P (dC, dI) vwCl [(h0, .inr (0, [.ref q_1, .int 0, .int 0, .int 0, .int 0]))] H := hP
  have hD : va_D A [(h0, .inr (0, [.ref q_1, .int 0, .int 0, .int 0, .int 0]))] := hD
  have hP9 := hP.sub (ws' := [(h0, .inr (0, [.ref q_1, .int 0, .int 0, .int 0, .int 0]))]) [0] rfl
  have hD9 := hD.sub (ws' := [(h0, .inr (0, [.ref q_1, .int 0, .int 0, .int 0, .int 0]))]) [0] (by decide) rfl
  exact W.vret hx hb hr (fun t ht hW => ⟨⟨(fun k => [q_1].getD k 0), rfl, trivial, ⟨by rw [ht]; exact hP9, hD9⟩⟩, hS.F ht⟩) hS.2.2 dX0_init_32
end
section
section FILLint
variable {p : Program} {l : Launch} {e : Env} {R : Room} {s : State} {m : MethodId} {args : Array Value} {below : List Frame} {meth : Method} {c : Code} {locs : List Loc} {cells slots : Nat} {Q : State → Prop}
theorem fill_int_loop {D : va_G} {cy : Nat → ClassId} {A : Nat → Prop} {a n : Nat} {v : Int32} {H0 : Heap} (hn : n < 2 ^ 31) (hx : p.tables.exec = Jvm.exec) (hb : c.code = cJ7_fill_53178) (hK : va_K D vwCl (tyl cy) s)
    (kx : ∀ (g : Nat → Int32) (H : Heap) (locs : List Loc) (ls : Array Slot), (∀ j, j < n → g j = v) → va_P D vwCl [(a, .inl (cy 0, n, .inl g))] H → va_D A [(a, .inl (cy 0, n, .inl g))] → va_S A H0 H locs → W p l e R s m args below meth c H locs cells slots Q (F0 m 20 ls [])) :
    ∀ (k i : Nat) (g : Nat → Int32) (H : Heap) (locs : List Loc) (ls : Array Slot), i + k = n → (∀ j, j < i → g j = v) → va_P D vwCl [(a, .inl (cy 0, n, .inl g))] H → va_D A [(a, .inl (cy 0, n, .inl g))] → va_S A H0 H locs → lv_has ls 4 [(2, .int (nI i)), (3, .int (nI n)), (0, .ref a), (1, .int v)] → W p l e R s m args below meth c H locs cells slots Q (F0 m 5 ls []) := by
  intro k
  induction k with
  | zero =>
    intro i g H locs ls hi hg hP hD hS hl
    refine lv_iload_n hx hb dJ7_fill_53178_5 rfl (lv_at hl 0 rfl) ?_
    refine lv_iload_n hx hb dJ7_fill_53178_6 rfl (lv_at hl 1 rfl) ?_
    refine lv_icmp_ge (tgt := 20) hx hb dJ7_fill_53178_7 (by decide) (fun c1 => ?_) (fun c1 => absurd (nI_le (by omega) (by omega)) c1)
    exact kx g H locs ls (fun j hj => hg j (by omega)) hP hD hS
  | succ k ih =>
    intro i g H locs ls hi hg hP hD hS hl
    refine lv_iload_n hx hb dJ7_fill_53178_5 rfl (lv_at hl 0 rfl) ?_
    refine lv_iload_n hx hb dJ7_fill_53178_6 rfl (lv_at hl 1 rfl) ?_
    refine lv_icmp_ge (tgt := 20) hx hb dJ7_fill_53178_7 (by decide) (fun c1 => absurd c1 (nI_ge (by omega) hn)) (fun c1 => ?_)
    refine lv_aload_n hx hb dJ7_fill_53178_10 rfl (lv_at hl 2 rfl) ?_
    refine lv_iload_n hx hb dJ7_fill_53178_11 rfl (lv_at hl 0 rfl) ?_
    refine lv_iload_n hx hb dJ7_fill_53178_12 rfl (lv_at hl 3 rfl) ?_
    refine va_iast hx hb hK hP hD hS 0 0 rfl rfl (vp_in_nI (n := i) (by omega) hn) dJ7_fill_53178_13 (fun H locs hP hD hS => ?_)
    refine lv_iinc (v := nI (i + 1)) (lv' := [(2, .int (nI (i + 1))), (3, .int (nI n)), (0, .ref a), (1, .int v)]) hx hb dJ7_fill_53178_14 hl (k := 0) rfl (nI_1 i) (by decide) rfl (fun ls hl => ?_)
    refine lv_goto (tgt := 5) hx hb dJ7_fill_53178_17 (by decide) ?_
    refine ih (i + 1) (upd g (nI i).toNatClampNeg v) H locs ls (by omega) (fun j hj => ?_) hP hD hS hl
    rw [nI_clamp (by omega)]
    by_cases h9 : j = i
    · simp [upd, h9]
    · simp [upd, h9]
      exact hg j (by omega)
end FILLint
theorem vz_arr_i {D : va_G} {cl : List vw_C} {H : Heap} {a n : Nat} {cA : ClassId} {f g : Nat → Int32} (h : ∀ j, j < n → f j = g j) (hP : va_P D cl [(a, .inl (cA, n, .inl f))] H) : va_P D cl [(a, .inl (cA, n, .inl g))] H := by
  intro k q hq
  have h0 : k < 1 := (List.getElem?_eq_some_iff.mp hq).1
  obtain rfl : k = 0 := by omega
  cases hq
  have h1 : H[a]? = some (vp_cell cA (n, .inl f)) := hP 0 _ rfl
  show H[a]? = some (vp_cell cA (n, .inl g))
  rw [h1]
  show some (arrV cA n (fun j => Value.int (f j))) = some (arrV cA n (fun j => Value.int (g j)))
  unfold arrV
  have h3 : (fun j : Fin n => Value.int (f j.val)) = (fun j : Fin n => Value.int (g j.val)) := funext fun j => congrArg Value.int (h j.val j.isLt)
  rw [h3]
theorem vz_arr_D_i {A : Nat → Prop} {a n : Nat} {cA : ClassId} {f g : Nat → Int32} (hD : va_D A [(a, .inl (cA, n, .inl f))]) : va_D A [(a, .inl (cA, n, .inl g))] := by
  refine ⟨fun i j p q hi hj _ => ?_, fun k q hk => ?_⟩
  · have h1 : i < 1 := (List.getElem?_eq_some_iff.mp hi).1
    have h2 : j < 1 := (List.getElem?_eq_some_iff.mp hj).1
    omega
  · have h1 : k < 1 := (List.getElem?_eq_some_iff.mp hk).1
    obtain rfl : k = 0 := by omega
    cases hk
    exact hD.2 0 (a, .inl (cA, n, .inl f)) rfl
set_option maxHeartbeats 4000000 in
set_option maxRecDepth 100000 in
theorem c_fill_int (l : Launch) (dC : Nat → ClassId) (dI : Nat → Nat → Nat) (cy : Nat → ClassId) (a n : Nat) (f : Nat → Int32) (v : Int32) (sz : Nat) (hn : n < 2 ^ 31) : Met l yJ7_fill_53178 wsJ7_fill_53178 ({ frames := 1, cells := 0, slots := 0, locals := 23 }) (va_Pc [.ref a, .int v] (wPre (dC, dI) cy [(a, .inl (cy 0, n, .inl f))] sz)) (va_Qv (fun (u : Unit) => True) (fun (u : Unit) t => wAt (dC, dI) (va_A [(a, .inl (cy 0, n, .inl f))] sz) [(a, .inl (cy 0, n, .inl (fun _ => v)))] t) (va_A [(a, .inl (cy 0, n, .inl f))] sz)) 0 0 (va_A [(a, .inl (cy 0, n, .inl f))] sz) := by
  refine Met.ofW (cc := cJ7_fill_53178) (maxL := 4) (ret := none) (by decide) rfl ?_
  intro p e s m args below meth c s₁ B hml hv
  obtain ⟨rfl, hsz, hP, hK, hD0, hN⟩ := hv
  have hx := B.exec
  have hb := B.bytes
  have hr := B.returns
  have hlocks := B.notSynchronized
  subst hsz
  have hD := hD0.self (sz := s.heap.size)
  generalize hAe : va_A [(a, .inl (cy 0, n, .inl f))] s.heap.size = A at hD ⊢
  have hS : va_S A s.heap s.heap [] := va_S.rf
  have hl := lv_entry ([.ref a, .int v]) (n := 4) (Nat.le_of_ble_eq_true rfl)
  rw [lg_entry_eq]
  generalize (lg_sl ([.ref a, .int v]) ++ List.replicate (4 - (lg_sl ([.ref a, .int v])).length) Slot.unset).toArray = ls at hl ⊢
  have hl : lv_has ls 4 [(0, .ref a), (1, .int v)] := hl
  refine lv_iconst (v := 0) hx hb dJ7_fill_53178_0 (by decide) ?_
  refine lv_istore_n (lv' := [(2, .int 0), (0, .ref a), (1, .int v)]) hx hb dJ7_fill_53178_1 rfl hl (by decide) rfl (fun ls hl => ?_)
  refine lv_aload_n hx hb dJ7_fill_53178_2 rfl (lv_at hl 1 rfl) ?_
  refine va_alen (v := nI n) hx hb hK hP 0 0 rfl rfl rfl dJ7_fill_53178_3 ?_
  refine lv_istore_n (lv' := [(3, .int (nI n)), (2, .int 0), (0, .ref a), (1, .int v)]) hx hb dJ7_fill_53178_4 rfl hl (by decide) rfl (fun ls hl => ?_)
  refine fill_int_loop (D := (dC, dI)) (A := A) (H0 := s.heap) (v := v) hn hx hb hK (fun g H locs ls hg hP hD hS => ?_) n 0 f s.heap [] ls (by omega) (fun j hj => absurd hj (by omega)) hP hD hS (lv_sub hl [1, 0, 2, 3] rfl)
  have hP9 := vz_arr_i (g := fun _ => v) hg hP
  have hD9 := vz_arr_D_i (g := fun _ => v) hD
  exact W.vret hx hb hr (fun t ht hW => ⟨⟨(), rfl, trivial, ⟨by rw [ht]; exact hP9, hD9⟩⟩, hS.F ht⟩) hS.2.2 dJ7_fill_53178_20
section FILLlong
variable {p : Program} {l : Launch} {e : Env} {R : Room} {s : State} {m : MethodId} {args : Array Value} {below : List Frame} {meth : Method} {c : Code} {locs : List Loc} {cells slots : Nat} {Q : State → Prop}
theorem fill_long_loop {D : va_G} {cy : Nat → ClassId} {A : Nat → Prop} {a n : Nat} {v : Int64} {H0 : Heap} (hn : n < 2 ^ 31) (hx : p.tables.exec = Jvm.exec) (hb : c.code = cJ7_fill_d0a16) (hK : va_K D vwCl (tyl cy) s)
    (kx : ∀ (g : Nat → Int64) (H : Heap) (locs : List Loc) (ls : Array Slot), (∀ j, j < n → g j = v) → va_P D vwCl [(a, .inl (cy 4, n, .inr (.inl g)))] H → va_D A [(a, .inl (cy 4, n, .inr (.inl g)))] → va_S A H0 H locs → W p l e R s m args below meth c H locs cells slots Q (F0 m 22 ls [])) :
    ∀ (k i : Nat) (g : Nat → Int64) (H : Heap) (locs : List Loc) (ls : Array Slot), i + k = n → (∀ j, j < i → g j = v) → va_P D vwCl [(a, .inl (cy 4, n, .inr (.inl g)))] H → va_D A [(a, .inl (cy 4, n, .inr (.inl g)))] → va_S A H0 H locs → lv_has ls 5 [(3, .int (nI i)), (4, .int (nI n)), (0, .ref a), (1, .long v)] → W p l e R s m args below meth c H locs cells slots Q (F0 m 6 ls []) := by
  intro k
  induction k with
  | zero =>
    intro i g H locs ls hi hg hP hD hS hl
    refine lv_iload_n hx hb dJ7_fill_d0a16_6 rfl (lv_at hl 0 rfl) ?_
    refine lv_iload hx hb dJ7_fill_d0a16_7 (lv_at hl 1 rfl) ?_
    refine lv_icmp_ge (tgt := 22) hx hb dJ7_fill_d0a16_9 (by decide) (fun c1 => ?_) (fun c1 => absurd (nI_le (by omega) (by omega)) c1)
    exact kx g H locs ls (fun j hj => hg j (by omega)) hP hD hS
  | succ k ih =>
    intro i g H locs ls hi hg hP hD hS hl
    refine lv_iload_n hx hb dJ7_fill_d0a16_6 rfl (lv_at hl 0 rfl) ?_
    refine lv_iload hx hb dJ7_fill_d0a16_7 (lv_at hl 1 rfl) ?_
    refine lv_icmp_ge (tgt := 22) hx hb dJ7_fill_d0a16_9 (by decide) (fun c1 => absurd c1 (nI_ge (by omega) hn)) (fun c1 => ?_)
    refine lv_aload_n hx hb dJ7_fill_d0a16_12 rfl (lv_at hl 2 rfl) ?_
    refine lv_iload_n hx hb dJ7_fill_d0a16_13 rfl (lv_at hl 0 rfl) ?_
    refine lv_lload_n hx hb dJ7_fill_d0a16_14 rfl (lv_at hl 3 rfl) ?_
    refine va_last hx hb hK hP hD hS 0 4 rfl rfl (vp_in_nI (n := i) (by omega) hn) dJ7_fill_d0a16_15 (fun H locs hP hD hS => ?_)
    refine lv_iinc (v := nI (i + 1)) (lv' := [(3, .int (nI (i + 1))), (4, .int (nI n)), (0, .ref a), (1, .long v)]) hx hb dJ7_fill_d0a16_16 hl (k := 0) rfl (nI_1 i) (by decide) rfl (fun ls hl => ?_)
    refine lv_goto (tgt := 6) hx hb dJ7_fill_d0a16_19 (by decide) ?_
    refine ih (i + 1) (vp_updL g (nI i).toNatClampNeg v) H locs ls (by omega) (fun j hj => ?_) hP hD hS hl
    rw [nI_clamp (by omega)]
    by_cases h9 : j = i
    · simp [vp_updL, h9]
    · simp [vp_updL, h9]
      exact hg j (by omega)
end FILLlong
theorem vz_arr_l {D : va_G} {cl : List vw_C} {H : Heap} {a n : Nat} {cA : ClassId} {f g : Nat → Int64} (h : ∀ j, j < n → f j = g j) (hP : va_P D cl [(a, .inl (cA, n, .inr (.inl f)))] H) : va_P D cl [(a, .inl (cA, n, .inr (.inl g)))] H := by
  intro k q hq
  have h0 : k < 1 := (List.getElem?_eq_some_iff.mp hq).1
  obtain rfl : k = 0 := by omega
  cases hq
  have h1 : H[a]? = some (vp_cell cA (n, .inr (.inl f))) := hP 0 _ rfl
  show H[a]? = some (vp_cell cA (n, .inr (.inl g)))
  rw [h1]
  show some (arrV cA n (fun j => Value.long (f j))) = some (arrV cA n (fun j => Value.long (g j)))
  unfold arrV
  have h3 : (fun j : Fin n => Value.long (f j.val)) = (fun j : Fin n => Value.long (g j.val)) := funext fun j => congrArg Value.long (h j.val j.isLt)
  rw [h3]
theorem vz_arr_D_l {A : Nat → Prop} {a n : Nat} {cA : ClassId} {f g : Nat → Int64} (hD : va_D A [(a, .inl (cA, n, .inr (.inl f)))]) : va_D A [(a, .inl (cA, n, .inr (.inl g)))] := by
  refine ⟨fun i j p q hi hj _ => ?_, fun k q hk => ?_⟩
  · have h1 : i < 1 := (List.getElem?_eq_some_iff.mp hi).1
    have h2 : j < 1 := (List.getElem?_eq_some_iff.mp hj).1
    omega
  · have h1 : k < 1 := (List.getElem?_eq_some_iff.mp hk).1
    obtain rfl : k = 0 := by omega
    cases hk
    exact hD.2 0 (a, .inl (cA, n, .inr (.inl f))) rfl
set_option maxHeartbeats 4000000 in
set_option maxRecDepth 100000 in
theorem c_fill_long (l : Launch) (dC : Nat → ClassId) (dI : Nat → Nat → Nat) (cy : Nat → ClassId) (a n : Nat) (f : Nat → Int64) (v : Int64) (sz : Nat) (hn : n < 2 ^ 31) : Met l yJ7_fill_d0a16 wsJ7_fill_d0a16 ({ frames := 1, cells := 0, slots := 0, locals := 23 }) (va_Pc [.ref a, .long v] (wPre (dC, dI) cy [(a, .inl (cy 4, n, .inr (.inl f)))] sz)) (va_Qv (fun (u : Unit) => True) (fun (u : Unit) t => wAt (dC, dI) (va_A [(a, .inl (cy 4, n, .inr (.inl f)))] sz) [(a, .inl (cy 4, n, .inr (.inl (fun _ => v))))] t) (va_A [(a, .inl (cy 4, n, .inr (.inl f)))] sz)) 0 0 (va_A [(a, .inl (cy 4, n, .inr (.inl f)))] sz) := by
  refine Met.ofW (cc := cJ7_fill_d0a16) (maxL := 5) (ret := none) (by decide) rfl ?_
  intro p e s m args below meth c s₁ B hml hv
  obtain ⟨rfl, hsz, hP, hK, hD0, hN⟩ := hv
  have hx := B.exec
  have hb := B.bytes
  have hr := B.returns
  have hlocks := B.notSynchronized
  subst hsz
  have hD := hD0.self (sz := s.heap.size)
  generalize hAe : va_A [(a, .inl (cy 4, n, .inr (.inl f)))] s.heap.size = A at hD ⊢
  have hS : va_S A s.heap s.heap [] := va_S.rf
  have hl := lv_entry ([.ref a, .long v]) (n := 5) (Nat.le_of_ble_eq_true rfl)
  rw [lg_entry_eq]
  generalize (lg_sl ([.ref a, .long v]) ++ List.replicate (5 - (lg_sl ([.ref a, .long v])).length) Slot.unset).toArray = ls at hl ⊢
  have hl : lv_has ls 5 [(0, .ref a), (1, .long v)] := hl
  refine lv_iconst (v := 0) hx hb dJ7_fill_d0a16_0 (by decide) ?_
  refine lv_istore_n (lv' := [(3, .int 0), (0, .ref a), (1, .long v)]) hx hb dJ7_fill_d0a16_1 rfl hl (by decide) rfl (fun ls hl => ?_)
  refine lv_aload_n hx hb dJ7_fill_d0a16_2 rfl (lv_at hl 1 rfl) ?_
  refine va_alen (v := nI n) hx hb hK hP 0 4 rfl rfl rfl dJ7_fill_d0a16_3 ?_
  refine lv_istore (lv' := [(4, .int (nI n)), (3, .int 0), (0, .ref a), (1, .long v)]) hx hb dJ7_fill_d0a16_4 hl (by decide) rfl (fun ls hl => ?_)
  refine fill_long_loop (D := (dC, dI)) (A := A) (H0 := s.heap) (v := v) hn hx hb hK (fun g H locs ls hg hP hD hS => ?_) n 0 f s.heap [] ls (by omega) (fun j hj => absurd hj (by omega)) hP hD hS (lv_sub hl [1, 0, 2, 3] rfl)
  have hP9 := vz_arr_l (g := fun _ => v) hg hP
  have hD9 := vz_arr_D_l (g := fun _ => v) hD
  exact W.vret hx hb hr (fun t ht hW => ⟨⟨(), rfl, trivial, ⟨by rw [ht]; exact hP9, hD9⟩⟩, hS.F ht⟩) hS.2.2 dJ7_fill_d0a16_22
end
section
set_option maxHeartbeats 4000000 in
set_option maxRecDepth 100000 in
theorem c_Rows_init (l : Launch) (dC : Nat → ClassId) (dI : Nat → Nat → Nat) (cy : Nat → ClassId) (h0 : Nat) (sz : Nat)  : Met l yX7_init wsX7_init ({ frames := 2, cells := 10, slots := 384, locals := 46 }) (va_Pc [.ref h0] (wPre (dC, dI) cy [(h0, .inr (7, [.null, .null, .null, .null]))] sz)) (va_Qv (fun (u : (Nat → Nat) × (Nat → Nat)) => True) (fun (u : (Nat → Nat) × (Nat → Nat)) t => wAt (dC, dI) (va_A [(h0, .inr (7, [.null, .null, .null, .null]))] sz) [(h0, .inr (7, [.ref (u.1 0), .ref (u.1 1), .ref (u.1 2), .ref (u.1 3)])), ((u.1 2), .inl (cy 0, 6, .inl (fun _ => 0))), ((u.1 3), .inl (cy 7, 6, .inr (.inr (.inr (.inr (fun i => if i < 6 then some (u.2 i) else none)))))), ((u.2 0), .inl (cy 4, 60, .inr (.inl (fun _ => 0)))), ((u.2 1), .inl (cy 4, 60, .inr (.inl (fun _ => 0)))), ((u.2 2), .inl (cy 4, 60, .inr (.inl (fun _ => 0)))), ((u.2 3), .inl (cy 4, 60, .inr (.inl (fun _ => 0)))), ((u.2 4), .inl (cy 4, 60, .inr (.inl (fun _ => 0)))), ((u.2 5), .inl (cy 4, 60, .inr (.inl (fun _ => 0)))), ((u.1 0), .inl (cy 0, 6, .inl (fun _ => (-1)))), ((u.1 1), .inl (cy 0, 6, .inl (fun _ => (-1))))] t) (va_A [(h0, .inr (7, [.null, .null, .null, .null]))] sz)) 10 384 (va_A [(h0, .inr (7, [.null, .null, .null, .null]))] sz) := by
  refine Met.ofW (cc := cX7_init) (maxL := 1) (ret := none) (by decide) rfl ?_
  intro p e s m args below meth c s₁ B hml hv
  obtain ⟨rfl, hsz, hP, hK, hD0, hN⟩ := hv
  have hx := B.exec
  have hb := B.bytes
  have hr := B.returns
  have hts := atoms_spec (ws := wsX7_init) B.pre
  have hown : s.vm.findClass RX7 = some m.cls := findClass_of_methodNamed B.named
  have hlocks := B.notSynchronized
  subst hsz
  have hin : meth.name = "<init>" := (name_of_methodNamed B.named B.method).1
  have hD := hD0.self (sz := s.heap.size)
  generalize hAe : va_A [(h0, .inr (7, [.null, .null, .null, .null]))] s.heap.size = A at hD ⊢
  have hA : ∀ q : Nat, s.heap.size ≤ q → A q := fun q h => by rw [← hAe]; exact Or.inr h
  have hS : va_S A s.heap s.heap [] := va_S.rf
  have hl := lv_entry ([.ref h0]) (n := 1) (Nat.le_of_ble_eq_true rfl)
  rw [lg_entry_eq]
  generalize (lg_sl ([.ref h0]) ++ List.replicate (1 - (lg_sl ([.ref h0])).length) Slot.unset).toArray = ls at hl ⊢
  have hl : lv_has ls 1 [(0, .ref h0)] := hl
  refine lv_aload_n hx hb dX7_init_0 rfl (lv_at hl 0 rfl) ?_
  refine W.objInit hx hb hown (hts (.methodLink RX7 3 objectInit) (List.mem_of_getElem? (i := 1) rfl)) (hts (.instanceMethod objectInit) (List.mem_of_getElem? (i := 2) rfl)) (hts (.code objectInit ⟨#[0xb1]⟩ 1 none) (List.mem_of_getElem? (i := 3) rfl)) rfl (hl.1.trans hml.symm) rfl dX7_init_1 (Nat.le_of_ble_eq_true rfl) (Nat.le_of_ble_eq_true rfl) ?_
  refine lv_aload_n hx hb dX7_init_4 rfl (lv_at hl 0 rfl) ?_
  refine lv_bipush (v := 6) hx hb dX7_init_5 (by decide) ?_
  refine vz_newa (atype := .int) (ty := .int) (t0 := 0) (N' := 6) (a0 := (6, .inl (fun _ => 0))) hx hb (hts (.arrayClass .int) (List.mem_of_getElem? (i := 4) rfl)) rfl rfl hK hP hD hS hA (fun _ => rfl) (by decide) rfl (by decide) (Nat.le_of_ble_eq_true rfl) (Nat.le_of_ble_eq_true rfl) dX7_init_7 (fun q_1 H hP hD hS => ?_)
  have hP : va_P (dC, dI) vwCl [(h0, .inr (7, [.null, .null, .null, .null])), (q_1, .inl (cy 0, 6, .inl (fun _ => 0)))] H := hP
  have hD : va_D A [(h0, .inr (7, [.null, .null, .null, .null])), (q_1, .inl (cy 0, 6, .inl (fun _ => 0)))] := hD
  refine W.widen (k := 1) (n := 6) (Nat.le_of_ble_eq_true rfl) (Nat.le_of_ble_eq_true rfl) ?_
  refine va_putF (D := (dC, dI)) (ci := 7) (v := .ref q_1) (C := RX7) (T := TX7) (N := 4) hx hb hts (fun _ h9 => List.mem_cons_of_mem _ (List.mem_append_right _ h9)) tyX7 tyX7_ok nmX7 hown hK hP hD hS 0 rfl rfl 0 (by decide) (hts (.fieldLink RX7 9 "SeatsRound$Rows" "keeper" "[I") (List.mem_of_getElem? (i := 5) rfl)) (fun _ h9 => h9) rfl hin rfl (tyX7_ok 0 (by decide)) rfl rfl (Nat.le_of_ble_eq_true rfl) dX7_init_9 (fun H locs hP hD hS => ?_)
  have hP : va_P (dC, dI) vwCl [(h0, .inr (7, [.ref q_1, .null, .null, .null])), (q_1, .inl (cy 0, 6, .inl (fun _ => 0)))] H := hP
  have hD : va_D A [(h0, .inr (7, [.ref q_1, .null, .null, .null])), (q_1, .inl (cy 0, 6, .inl (fun _ => 0)))] := hD
  refine lv_aload_n hx hb dX7_init_12 rfl (lv_at hl 0 rfl) ?_
  refine lv_bipush (v := 6) hx hb dX7_init_13 (by decide) ?_
  refine vz_newa (atype := .int) (ty := .int) (t0 := 0) (N' := 6) (a0 := (6, .inl (fun _ => 0))) hx hb (hts (.arrayClass .int) (List.mem_of_getElem? (i := 4) rfl)) rfl rfl hK hP hD hS hA (fun _ => rfl) (by decide) rfl (by decide) (Nat.le_of_ble_eq_true rfl) (Nat.le_of_ble_eq_true rfl) dX7_init_15 (fun q_2 H hP hD hS => ?_)
  have hP : va_P (dC, dI) vwCl [(h0, .inr (7, [.ref q_1, .null, .null, .null])), (q_1, .inl (cy 0, 6, .inl (fun _ => 0))), (q_2, .inl (cy 0, 6, .inl (fun _ => 0)))] H := hP
  have hD : va_D A [(h0, .inr (7, [.ref q_1, .null, .null, .null])), (q_1, .inl (cy 0, 6, .inl (fun _ => 0))), (q_2, .inl (cy 0, 6, .inl (fun _ => 0)))] := hD
  refine W.widen (k := 2) (n := 12) (Nat.le_of_ble_eq_true rfl) (Nat.le_of_ble_eq_true rfl) ?_
  refine va_putF (D := (dC, dI)) (ci := 7) (v := .ref q_2) (C := RX7) (T := TX7) (N := 4) hx hb hts (fun _ h9 => List.mem_cons_of_mem _ (List.mem_append_right _ h9)) tyX7 tyX7_ok nmX7 hown hK hP hD hS 0 rfl rfl 1 (by decide) (hts (.fieldLink RX7 15 "SeatsRound$Rows" "sort" "[I") (List.mem_of_getElem? (i := 6) rfl)) (fun _ h9 => h9) rfl hin rfl (tyX7_ok 1 (by decide)) rfl rfl (Nat.le_of_ble_eq_true rfl) dX7_init_17 (fun H locs hP hD hS => ?_)
  have hP : va_P (dC, dI) vwCl [(h0, .inr (7, [.ref q_1, .ref q_2, .null, .null])), (q_1, .inl (cy 0, 6, .inl (fun _ => 0))), (q_2, .inl (cy 0, 6, .inl (fun _ => 0)))] H := hP
  have hD : va_D A [(h0, .inr (7, [.ref q_1, .ref q_2, .null, .null])), (q_1, .inl (cy 0, 6, .inl (fun _ => 0))), (q_2, .inl (cy 0, 6, .inl (fun _ => 0)))] := hD
  refine lv_aload_n hx hb dX7_init_20 rfl (lv_at hl 0 rfl) ?_
  refine lv_bipush (v := 6) hx hb dX7_init_21 (by decide) ?_
  refine vz_newa (atype := .int) (ty := .int) (t0 := 0) (N' := 6) (a0 := (6, .inl (fun _ => 0))) hx hb (hts (.arrayClass .int) (List.mem_of_getElem? (i := 4) rfl)) rfl rfl hK hP hD hS hA (fun _ => rfl) (by decide) rfl (by decide) (Nat.le_of_ble_eq_true rfl) (Nat.le_of_ble_eq_true rfl) dX7_init_23 (fun q_3 H hP hD hS => ?_)
  have hP : va_P (dC, dI) vwCl [(h0, .inr (7, [.ref q_1, .ref q_2, .null, .null])), (q_1, .inl (cy 0, 6, .inl (fun _ => 0))), (q_2, .inl (cy 0, 6, .inl (fun _ => 0))), (q_3, .inl (cy 0, 6, .inl (fun _ => 0)))] H := hP
  have hD : va_D A [(h0, .inr (7, [.ref q_1, .ref q_2, .null, .null])), (q_1, .inl (cy 0, 6, .inl (fun _ => 0))), (q_2, .inl (cy 0, 6, .inl (fun _ => 0))), (q_3, .inl (cy 0, 6, .inl (fun _ => 0)))] := hD
  refine W.widen (k := 3) (n := 18) (Nat.le_of_ble_eq_true rfl) (Nat.le_of_ble_eq_true rfl) ?_
  refine va_putF (D := (dC, dI)) (ci := 7) (v := .ref q_3) (C := RX7) (T := TX7) (N := 4) hx hb hts (fun _ h9 => List.mem_cons_of_mem _ (List.mem_append_right _ h9)) tyX7 tyX7_ok nmX7 hown hK hP hD hS 0 rfl rfl 2 (by decide) (hts (.fieldLink RX7 18 "SeatsRound$Rows" "length" "[I") (List.mem_of_getElem? (i := 7) rfl)) (fun _ h9 => h9) rfl hin rfl (tyX7_ok 2 (by decide)) rfl rfl (Nat.le_of_ble_eq_true rfl) dX7_init_25 (fun H locs hP hD hS => ?_)
  have hP : va_P (dC, dI) vwCl [(h0, .inr (7, [.ref q_1, .ref q_2, .ref q_3, .null])), (q_1, .inl (cy 0, 6, .inl (fun _ => 0))), (q_2, .inl (cy 0, 6, .inl (fun _ => 0))), (q_3, .inl (cy 0, 6, .inl (fun _ => 0)))] H := hP
  have hD : va_D A [(h0, .inr (7, [.ref q_1, .ref q_2, .ref q_3, .null])), (q_1, .inl (cy 0, 6, .inl (fun _ => 0))), (q_2, .inl (cy 0, 6, .inl (fun _ => 0))), (q_3, .inl (cy 0, 6, .inl (fun _ => 0)))] := hD
  refine lv_aload_n hx hb dX7_init_28 rfl (lv_at hl 0 rfl) ?_
  refine lv_bipush (v := 6) hx hb dX7_init_29 (by decide) ?_
  refine lv_bipush (v := 60) hx hb dX7_init_31 (by decide) ?_
  refine vz_mna (t0 := 7) (t1 := 4) (N' := 6) (K' := 60) (z := (60, .inr (.inl (fun _ => 0)))) (ty := .long) hx hb hown (hts (.classLink RX7 21 "[[J") (List.mem_of_getElem? (i := 8) rfl)) hN.2.2.2.2 (hts (.arrayClass .long) (List.mem_of_getElem? (i := 9) rfl)) rfl (hK.2 4 _ rfl).2 hK hP hD hS hA (by decide) (by decide) rfl rfl (by decide) (by decide) (by decide) rfl rfl (Nat.le_of_ble_eq_true rfl) (Nat.le_of_ble_eq_true rfl) (fun _ => rfl) dX7_init_33 (fun q_4 r_5 H hP hD hS => ?_)
  have hP : va_P (dC, dI) vwCl [(h0, .inr (7, [.ref q_1, .ref q_2, .ref q_3, .null])), (q_1, .inl (cy 0, 6, .inl (fun _ => 0))), (q_2, .inl (cy 0, 6, .inl (fun _ => 0))), (q_3, .inl (cy 0, 6, .inl (fun _ => 0))), (q_4, .inl (cy 7, 6, .inr (.inr (.inr (.inr (fun i => if i < 6 then some (r_5 i) else none)))))), ((r_5 0), .inl (cy 4, 60, .inr (.inl (fun _ => 0)))), ((r_5 1), .inl (cy 4, 60, .inr (.inl (fun _ => 0)))), ((r_5 2), .inl (cy 4, 60, .inr (.inl (fun _ => 0)))), ((r_5 3), .inl (cy 4, 60, .inr (.inl (fun _ => 0)))), ((r_5 4), .inl (cy 4, 60, .inr (.inl (fun _ => 0)))), ((r_5 5), .inl (cy 4, 60, .inr (.inl (fun _ => 0))))] H := hP
  have hD : va_D A [(h0, .inr (7, [.ref q_1, .ref q_2, .ref q_3, .null])), (q_1, .inl (cy 0, 6, .inl (fun _ => 0))), (q_2, .inl (cy 0, 6, .inl (fun _ => 0))), (q_3, .inl (cy 0, 6, .inl (fun _ => 0))), (q_4, .inl (cy 7, 6, .inr (.inr (.inr (.inr (fun i => if i < 6 then some (r_5 i) else none)))))), ((r_5 0), .inl (cy 4, 60, .inr (.inl (fun _ => 0)))), ((r_5 1), .inl (cy 4, 60, .inr (.inl (fun _ => 0)))), ((r_5 2), .inl (cy 4, 60, .inr (.inl (fun _ => 0)))), ((r_5 3), .inl (cy 4, 60, .inr (.inl (fun _ => 0)))), ((r_5 4), .inl (cy 4, 60, .inr (.inl (fun _ => 0)))), ((r_5 5), .inl (cy 4, 60, .inr (.inl (fun _ => 0))))] := hD
  refine W.widen (k := 10) (n := 384) (Nat.le_of_ble_eq_true rfl) (Nat.le_of_ble_eq_true rfl) ?_
  refine va_putF (D := (dC, dI)) (ci := 7) (v := .ref q_4) (C := RX7) (T := TX7) (N := 4) hx hb hts (fun _ h9 => List.mem_cons_of_mem _ (List.mem_append_right _ h9)) tyX7 tyX7_ok nmX7 hown hK hP hD hS 0 rfl rfl 3 (by decide) (hts (.fieldLink RX7 23 "SeatsRound$Rows" "elements" "[[J") (List.mem_of_getElem? (i := 10) rfl)) (fun _ h9 => h9) rfl hin rfl (tyX7_ok 3 (by decide)) rfl rfl (Nat.le_of_ble_eq_true rfl) dX7_init_37 (fun H locs hP hD hS => ?_)
  have hP : va_P (dC, dI) vwCl [(h0, .inr (7, [.ref q_1, .ref q_2, .ref q_3, .ref q_4])), (q_1, .inl (cy 0, 6, .inl (fun _ => 0))), (q_2, .inl (cy 0, 6, .inl (fun _ => 0))), (q_3, .inl (cy 0, 6, .inl (fun _ => 0))), (q_4, .inl (cy 7, 6, .inr (.inr (.inr (.inr (fun i => if i < 6 then some (r_5 i) else none)))))), ((r_5 0), .inl (cy 4, 60, .inr (.inl (fun _ => 0)))), ((r_5 1), .inl (cy 4, 60, .inr (.inl (fun _ => 0)))), ((r_5 2), .inl (cy 4, 60, .inr (.inl (fun _ => 0)))), ((r_5 3), .inl (cy 4, 60, .inr (.inl (fun _ => 0)))), ((r_5 4), .inl (cy 4, 60, .inr (.inl (fun _ => 0)))), ((r_5 5), .inl (cy 4, 60, .inr (.inl (fun _ => 0))))] H := hP
  have hD : va_D A [(h0, .inr (7, [.ref q_1, .ref q_2, .ref q_3, .ref q_4])), (q_1, .inl (cy 0, 6, .inl (fun _ => 0))), (q_2, .inl (cy 0, 6, .inl (fun _ => 0))), (q_3, .inl (cy 0, 6, .inl (fun _ => 0))), (q_4, .inl (cy 7, 6, .inr (.inr (.inr (.inr (fun i => if i < 6 then some (r_5 i) else none)))))), ((r_5 0), .inl (cy 4, 60, .inr (.inl (fun _ => 0)))), ((r_5 1), .inl (cy 4, 60, .inr (.inl (fun _ => 0)))), ((r_5 2), .inl (cy 4, 60, .inr (.inl (fun _ => 0)))), ((r_5 3), .inl (cy 4, 60, .inr (.inl (fun _ => 0)))), ((r_5 4), .inl (cy 4, 60, .inr (.inl (fun _ => 0)))), ((r_5 5), .inl (cy 4, 60, .inr (.inl (fun _ => 0))))] := hD
  refine lv_aload_n hx hb dX7_init_40 rfl (lv_at hl 0 rfl) ?_
  refine va_get (D := (dC, dI)) (ci := 7) (v := .ref q_1) (C := RX7) (T := TX7) (N := 4) hx hb hts (fun _ h9 => List.mem_cons_of_mem _ (List.mem_append_right _ h9)) hown hK hP 0 rfl rfl 0 (by decide) (hts (.fieldLink RX7 9 "SeatsRound$Rows" "keeper" "[I") (List.mem_of_getElem? (i := 5) rfl)) (fun _ h9 => h9) rfl dX7_init_41 ?_
  refine lv_iconst (v := (-1)) hx hb dX7_init_44 (by decide) ?_
  have hPc := hP.sub (ws' := [(q_1, .inl (cy 0, 6, .inl (fun _ => 0)))]) [1] rfl
  have hDc := hD.sub (ws' := [(q_1, .inl (cy 0, 6, .inl (fun _ => 0)))]) [1] (by decide) rfl
  have hFc := va_free (wc := [(q_1, .inl (cy 0, 6, .inl (fun _ => 0)))]) hD hS hA [1] rfl
  refine va_callv (va_runS (As := [.ref q_1, .int (-1)]) (rest := []) ⟨hx, hb, hml, hown, hts⟩ (c_fill_int l dC dI cy q_1 6 (fun _ => 0) (-1) H.size (by decide)) (va_cwS 2 hts gX7_init_J7_fill_53178 rfl rfl rfl (by decide +kernel) ⟨Nat.le_of_ble_eq_true rfl, Nat.le_of_ble_eq_true rfl⟩) (wp_S hK hN hPc hDc) rfl rfl hl.1 rfl (lv_room (Nat.le_of_ble_eq_true rfl)) dX7_init_45 ⟨Nat.le_of_ble_eq_true rfl, Nat.le_of_ble_eq_true rfl⟩) hS (fun q _ h => hFc q h) hFc (fun u_6 t H1 locs ht hvm hw_6 hB hz1 hk1 hS => ?_)
  obtain ⟨hP1, hD1⟩ := hB
  rw [ht] at hP1
  obtain ⟨hP, hD⟩ := va_join (wr := [(h0, .inr (7, [.ref q_1, .ref q_2, .ref q_3, .ref q_4])), (q_2, .inl (cy 0, 6, .inl (fun _ => 0))), (q_3, .inl (cy 0, 6, .inl (fun _ => 0))), (q_4, .inl (cy 7, 6, .inr (.inr (.inr (.inr (fun i => if i < 6 then some (r_5 i) else none)))))), ((r_5 0), .inl (cy 4, 60, .inr (.inl (fun _ => 0)))), ((r_5 1), .inl (cy 4, 60, .inr (.inl (fun _ => 0)))), ((r_5 2), .inl (cy 4, 60, .inr (.inl (fun _ => 0)))), ((r_5 3), .inl (cy 4, 60, .inr (.inl (fun _ => 0)))), ((r_5 4), .inl (cy 4, 60, .inr (.inl (fun _ => 0)))), ((r_5 5), .inl (cy 4, 60, .inr (.inl (fun _ => 0))))]) (w1 := [(q_1, .inl (cy 0, 6, .inl (fun _ => (-1))))]) hP hD [1] [0, 2, 3, 4, 5, 6, 7, 8, 9, 10] rfl rfl (by decide) (by decide) hk1 hFc hP1 hD1
  generalize H1 = H at hP hS ⊢
  have hP : va_P (dC, dI) vwCl [(h0, .inr (7, [.ref q_1, .ref q_2, .ref q_3, .ref q_4])), (q_2, .inl (cy 0, 6, .inl (fun _ => 0))), (q_3, .inl (cy 0, 6, .inl (fun _ => 0))), (q_4, .inl (cy 7, 6, .inr (.inr (.inr (.inr (fun i => if i < 6 then some (r_5 i) else none)))))), ((r_5 0), .inl (cy 4, 60, .inr (.inl (fun _ => 0)))), ((r_5 1), .inl (cy 4, 60, .inr (.inl (fun _ => 0)))), ((r_5 2), .inl (cy 4, 60, .inr (.inl (fun _ => 0)))), ((r_5 3), .inl (cy 4, 60, .inr (.inl (fun _ => 0)))), ((r_5 4), .inl (cy 4, 60, .inr (.inl (fun _ => 0)))), ((r_5 5), .inl (cy 4, 60, .inr (.inl (fun _ => 0)))), (q_1, .inl (cy 0, 6, .inl (fun _ => (-1))))] H := hP
  have hD : va_D A [(h0, .inr (7, [.ref q_1, .ref q_2, .ref q_3, .ref q_4])), (q_2, .inl (cy 0, 6, .inl (fun _ => 0))), (q_3, .inl (cy 0, 6, .inl (fun _ => 0))), (q_4, .inl (cy 7, 6, .inr (.inr (.inr (.inr (fun i => if i < 6 then some (r_5 i) else none)))))), ((r_5 0), .inl (cy 4, 60, .inr (.inl (fun _ => 0)))), ((r_5 1), .inl (cy 4, 60, .inr (.inl (fun _ => 0)))), ((r_5 2), .inl (cy 4, 60, .inr (.inl (fun _ => 0)))), ((r_5 3), .inl (cy 4, 60, .inr (.inl (fun _ => 0)))), ((r_5 4), .inl (cy 4, 60, .inr (.inl (fun _ => 0)))), ((r_5 5), .inl (cy 4, 60, .inr (.inl (fun _ => 0)))), (q_1, .inl (cy 0, 6, .inl (fun _ => (-1))))] := hD
  refine lv_aload_n hx hb dX7_init_48 rfl (lv_at hl 0 rfl) ?_
  refine va_get (D := (dC, dI)) (ci := 7) (v := .ref q_2) (C := RX7) (T := TX7) (N := 4) hx hb hts (fun _ h9 => List.mem_cons_of_mem _ (List.mem_append_right _ h9)) hown hK hP 0 rfl rfl 1 (by decide) (hts (.fieldLink RX7 15 "SeatsRound$Rows" "sort" "[I") (List.mem_of_getElem? (i := 6) rfl)) (fun _ h9 => h9) rfl dX7_init_49 ?_
  refine lv_iconst (v := (-1)) hx hb dX7_init_52 (by decide) ?_
  have hPc := hP.sub (ws' := [(q_2, .inl (cy 0, 6, .inl (fun _ => 0)))]) [1] rfl
  have hDc := hD.sub (ws' := [(q_2, .inl (cy 0, 6, .inl (fun _ => 0)))]) [1] (by decide) rfl
  have hFc := va_free (wc := [(q_2, .inl (cy 0, 6, .inl (fun _ => 0)))]) hD hS hA [1] rfl
  refine va_callv (va_runS (As := [.ref q_2, .int (-1)]) (rest := []) ⟨hx, hb, hml, hown, hts⟩ (c_fill_int l dC dI cy q_2 6 (fun _ => 0) (-1) H.size (by decide)) (va_cwS 2 hts gX7_init_J7_fill_53178 rfl rfl rfl (by decide +kernel) ⟨Nat.le_of_ble_eq_true rfl, Nat.le_of_ble_eq_true rfl⟩) (wp_S hK hN hPc hDc) rfl rfl hl.1 rfl (lv_room (Nat.le_of_ble_eq_true rfl)) dX7_init_53 ⟨Nat.le_of_ble_eq_true rfl, Nat.le_of_ble_eq_true rfl⟩) hS (fun q _ h => hFc q h) hFc (fun u_7 t H1 locs ht hvm hw_7 hB hz1 hk1 hS => ?_)
  obtain ⟨hP1, hD1⟩ := hB
  rw [ht] at hP1
  obtain ⟨hP, hD⟩ := va_join (wr := [(h0, .inr (7, [.ref q_1, .ref q_2, .ref q_3, .ref q_4])), (q_3, .inl (cy 0, 6, .inl (fun _ => 0))), (q_4, .inl (cy 7, 6, .inr (.inr (.inr (.inr (fun i => if i < 6 then some (r_5 i) else none)))))), ((r_5 0), .inl (cy 4, 60, .inr (.inl (fun _ => 0)))), ((r_5 1), .inl (cy 4, 60, .inr (.inl (fun _ => 0)))), ((r_5 2), .inl (cy 4, 60, .inr (.inl (fun _ => 0)))), ((r_5 3), .inl (cy 4, 60, .inr (.inl (fun _ => 0)))), ((r_5 4), .inl (cy 4, 60, .inr (.inl (fun _ => 0)))), ((r_5 5), .inl (cy 4, 60, .inr (.inl (fun _ => 0)))), (q_1, .inl (cy 0, 6, .inl (fun _ => (-1))))]) (w1 := [(q_2, .inl (cy 0, 6, .inl (fun _ => (-1))))]) hP hD [1] [0, 2, 3, 4, 5, 6, 7, 8, 9, 10] rfl rfl (by decide) (by decide) hk1 hFc hP1 hD1
  generalize H1 = H at hP hS ⊢
  have hP : va_P (dC, dI) vwCl [(h0, .inr (7, [.ref q_1, .ref q_2, .ref q_3, .ref q_4])), (q_3, .inl (cy 0, 6, .inl (fun _ => 0))), (q_4, .inl (cy 7, 6, .inr (.inr (.inr (.inr (fun i => if i < 6 then some (r_5 i) else none)))))), ((r_5 0), .inl (cy 4, 60, .inr (.inl (fun _ => 0)))), ((r_5 1), .inl (cy 4, 60, .inr (.inl (fun _ => 0)))), ((r_5 2), .inl (cy 4, 60, .inr (.inl (fun _ => 0)))), ((r_5 3), .inl (cy 4, 60, .inr (.inl (fun _ => 0)))), ((r_5 4), .inl (cy 4, 60, .inr (.inl (fun _ => 0)))), ((r_5 5), .inl (cy 4, 60, .inr (.inl (fun _ => 0)))), (q_1, .inl (cy 0, 6, .inl (fun _ => (-1)))), (q_2, .inl (cy 0, 6, .inl (fun _ => (-1))))] H := hP
  have hD : va_D A [(h0, .inr (7, [.ref q_1, .ref q_2, .ref q_3, .ref q_4])), (q_3, .inl (cy 0, 6, .inl (fun _ => 0))), (q_4, .inl (cy 7, 6, .inr (.inr (.inr (.inr (fun i => if i < 6 then some (r_5 i) else none)))))), ((r_5 0), .inl (cy 4, 60, .inr (.inl (fun _ => 0)))), ((r_5 1), .inl (cy 4, 60, .inr (.inl (fun _ => 0)))), ((r_5 2), .inl (cy 4, 60, .inr (.inl (fun _ => 0)))), ((r_5 3), .inl (cy 4, 60, .inr (.inl (fun _ => 0)))), ((r_5 4), .inl (cy 4, 60, .inr (.inl (fun _ => 0)))), ((r_5 5), .inl (cy 4, 60, .inr (.inl (fun _ => 0)))), (q_1, .inl (cy 0, 6, .inl (fun _ => (-1)))), (q_2, .inl (cy 0, 6, .inl (fun _ => (-1))))] := hD
  have hP9 := hP.sub (ws' := [(h0, .inr (7, [.ref q_1, .ref q_2, .ref q_3, .ref q_4])), (q_3, .inl (cy 0, 6, .inl (fun _ => 0))), (q_4, .inl (cy 7, 6, .inr (.inr (.inr (.inr (fun i => if i < 6 then some (r_5 i) else none)))))), ((r_5 0), .inl (cy 4, 60, .inr (.inl (fun _ => 0)))), ((r_5 1), .inl (cy 4, 60, .inr (.inl (fun _ => 0)))), ((r_5 2), .inl (cy 4, 60, .inr (.inl (fun _ => 0)))), ((r_5 3), .inl (cy 4, 60, .inr (.inl (fun _ => 0)))), ((r_5 4), .inl (cy 4, 60, .inr (.inl (fun _ => 0)))), ((r_5 5), .inl (cy 4, 60, .inr (.inl (fun _ => 0)))), (q_1, .inl (cy 0, 6, .inl (fun _ => (-1)))), (q_2, .inl (cy 0, 6, .inl (fun _ => (-1))))]) [0, 1, 2, 3, 4, 5, 6, 7, 8, 9, 10] rfl
  have hD9 := hD.sub (ws' := [(h0, .inr (7, [.ref q_1, .ref q_2, .ref q_3, .ref q_4])), (q_3, .inl (cy 0, 6, .inl (fun _ => 0))), (q_4, .inl (cy 7, 6, .inr (.inr (.inr (.inr (fun i => if i < 6 then some (r_5 i) else none)))))), ((r_5 0), .inl (cy 4, 60, .inr (.inl (fun _ => 0)))), ((r_5 1), .inl (cy 4, 60, .inr (.inl (fun _ => 0)))), ((r_5 2), .inl (cy 4, 60, .inr (.inl (fun _ => 0)))), ((r_5 3), .inl (cy 4, 60, .inr (.inl (fun _ => 0)))), ((r_5 4), .inl (cy 4, 60, .inr (.inl (fun _ => 0)))), ((r_5 5), .inl (cy 4, 60, .inr (.inl (fun _ => 0)))), (q_1, .inl (cy 0, 6, .inl (fun _ => (-1)))), (q_2, .inl (cy 0, 6, .inl (fun _ => (-1))))]) [0, 1, 2, 3, 4, 5, 6, 7, 8, 9, 10] (by decide) rfl
  exact W.vret hx hb hr (fun t ht hW => ⟨⟨(fun k => [q_1, q_2, q_3, q_4].getD k 0, r_5), rfl, trivial, ⟨by rw [ht]; exact hP9, hD9⟩⟩, hS.F ht⟩) hS.2.2 dX7_init_56
set_option maxHeartbeats 4000000 in
set_option maxRecDepth 100000 in
theorem c_SR_init (l : Launch) (dC : Nat → ClassId) (dI : Nat → Nat → Nat) (cy : Nat → ClassId) (h0 : Nat) (sz : Nat)  : Met l yX11_init wsX11_init ({ frames := 3, cells := 187, slots := 7006, locals := 66 }) (va_Pc [.ref h0] (wPre (dC, dI) cy [(h0, .inr (11, [.null, .null, .null, .null, .null, .null, .int 0, .null, .null, .null, .null, .null, .null]))] sz)) (va_Qv (fun (u : (Nat → Nat) × (Nat → Nat)) => True) (fun (u : (Nat → Nat) × (Nat → Nat)) t => wAt (dC, dI) (va_A [(h0, .inr (11, [.null, .null, .null, .null, .null, .null, .int 0, .null, .null, .null, .null, .null, .null]))] sz) [(h0, .inr (11, [.ref (u.1 0), .ref (u.1 1), .ref (u.1 2), .ref (u.1 3), .ref (u.1 4), .ref (u.1 5), .int 0, .ref (u.1 6), .ref (u.1 7), .ref (u.1 8), .ref (u.1 9), .ref (u.1 10), .ref (u.1 11)])), ((u.1 0), .inr (9, [.ref (u.1 12), .int 0])), ((u.1 12), .inl (cy 1, 80, .inl (fun _ => 0))), ((u.1 1), .inr (4, [.ref (u.1 13), .ref (u.1 14), .ref (u.1 15), .int 0])), ((u.1 2), .inr (2, [.ref (u.1 16), .ref (u.1 17), .ref (u.1 18), .ref (u.1 19), .ref (u.1 20), .int 0])), ((u.1 16), .inl (cy 0, 12, .inl (fun _ => 0))), ((u.1 17), .inl (cy 0, 12, .inl (fun _ => 0))), ((u.1 18), .inl (cy 0, 12, .inl (fun _ => 0))), ((u.1 19), .inl (cy 0, 12, .inl (fun _ => 0))), ((u.1 5), .inl (cy 8, 10, .inr (.inr (.inr (.inr (fun _ => none)))))), ((u.1 7), .inr (6, [.ref (u.1 21), .ref (u.1 22), .ref (u.1 23), .ref (u.1 24), .ref (u.1 25), .ref (u.1 26), .ref (u.1 27), .ref (u.1 28), .int 0, .ref (u.1 2), .ref (u.1 1), .ref (u.1 4)])), ((u.1 8), .inr (5, [.ref (u.1 29), .int 0, .ref (u.1 30), .int 0, .ref (u.1 31), .ref (u.1 32), .ref (u.1 2), .ref (u.1 1), .ref (u.1 4), .ref (u.1 3)])), ((u.1 9), .inr (10, [.ref (u.1 33), .int 0, .int (-1), .ref (u.1 34), .ref (u.1 1)])), ((u.1 33), .inl (cy 0, 6, .inl (fun _ => 0))), ((u.1 10), .inr (0, [.ref (u.1 35), .int 0, .int 0, .int 0, .int 0])), ((u.1 11), .inr (7, [.ref (u.1 36), .ref (u.1 37), .ref (u.1 38), .ref (u.1 39)])), ((u.1 38), .inl (cy 0, 6, .inl (fun _ => 0))), ((u.1 39), .inl (cy 7, 6, .inr (.inr (.inr (.inr (fun i => if i < 6 then some (u.2 i) else none)))))), ((u.2 0), .inl (cy 4, 60, .inr (.inl (fun _ => 0)))), ((u.2 1), .inl (cy 4, 60, .inr (.inl (fun _ => 0)))), ((u.2 2), .inl (cy 4, 60, .inr (.inl (fun _ => 0)))), ((u.2 3), .inl (cy 4, 60, .inr (.inl (fun _ => 0)))), ((u.2 4), .inl (cy 4, 60, .inr (.inl (fun _ => 0)))), ((u.2 5), .inl (cy 4, 60, .inr (.inl (fun _ => 0)))), ((u.1 36), .inl (cy 0, 6, .inl (fun _ => (-1)))), ((u.1 37), .inl (cy 0, 6, .inl (fun _ => (-1))))] t) (va_A [(h0, .inr (11, [.null, .null, .null, .null, .null, .null, .int 0, .null, .null, .null, .null, .null, .null]))] sz)) 187 7006 (va_A [(h0, .inr (11, [.null, .null, .null, .null, .null, .null, .int 0, .null, .null, .null, .null, .null, .null]))] sz) := by
  refine Met.ofW (cc := cX11_init) (maxL := 1) (ret := none) (by decide) rfl ?_
  intro p e s m args below meth c s₁ B hml hv
  obtain ⟨rfl, hsz, hP, hK, hD0, hN⟩ := hv
  have hx := B.exec
  have hb := B.bytes
  have hr := B.returns
  have hts := atoms_spec (ws := wsX11_init) B.pre
  have hown : s.vm.findClass RX11 = some m.cls := findClass_of_methodNamed B.named
  have hlocks := B.notSynchronized
  subst hsz
  have hin : meth.name = "<init>" := (name_of_methodNamed B.named B.method).1
  have hD := hD0.self (sz := s.heap.size)
  generalize hAe : va_A [(h0, .inr (11, [.null, .null, .null, .null, .null, .null, .int 0, .null, .null, .null, .null, .null, .null]))] s.heap.size = A at hD ⊢
  have hA : ∀ q : Nat, s.heap.size ≤ q → A q := fun q h => by rw [← hAe]; exact Or.inr h
  have hS : va_S A s.heap s.heap [] := va_S.rf
  have hl := lv_entry ([.ref h0]) (n := 1) (Nat.le_of_ble_eq_true rfl)
  rw [lg_entry_eq]
  generalize (lg_sl ([.ref h0]) ++ List.replicate (1 - (lg_sl ([.ref h0])).length) Slot.unset).toArray = ls at hl ⊢
  have hl : lv_has ls 1 [(0, .ref h0)] := hl
  refine lv_aload_n hx hb dX11_init_0 rfl (lv_at hl 0 rfl) ?_
  refine W.objInit hx hb hown (hts (.methodLink RX11 1 objectInit) (List.mem_of_getElem? (i := 1) rfl)) (hts (.instanceMethod objectInit) (List.mem_of_getElem? (i := 2) rfl)) (hts (.code objectInit ⟨#[0xb1]⟩ 1 none) (List.mem_of_getElem? (i := 3) rfl)) rfl (hl.1.trans hml.symm) rfl dX11_init_1 (Nat.le_of_ble_eq_true rfl) (Nat.le_of_ble_eq_true rfl) ?_
  refine lv_aload_n hx hb dX11_init_4 rfl (lv_at hl 0 rfl) ?_
  refine va_new (ci := 9) (fs := [.null, .int 0]) (C := RX9) (T := TX9) (N := 2) hx hb hts (fun _ h9 => List.mem_cons_of_mem _ (List.mem_append_left _ (List.mem_append_left _ (List.mem_append_left _ (List.mem_append_left _ (List.mem_append_left _ (List.mem_append_left _ (List.mem_append_left _ (List.mem_append_left _ (List.mem_append_left _ (List.mem_append_left _ (List.mem_append_left _ (List.mem_append_right _ h9))))))))))))) tyX9 tyX9_ok hown (hts (.classLink RX11 7 RX9) (List.mem_of_getElem? (i := 4) rfl)) (hts (.instantiable RX9 2) (List.mem_of_getElem? (i := 5) rfl)) (hts (.initialized RX9) (List.mem_of_getElem? (i := 6) rfl)) hK hP hD hS hA rfl (fun j hj => vz_dfX9 j hj) (Nat.le_of_ble_eq_true rfl) (Nat.le_of_ble_eq_true rfl) dX11_init_5 (fun q_1 H hP hD hS => ?_)
  have hP : va_P (dC, dI) vwCl [(h0, .inr (11, [.null, .null, .null, .null, .null, .null, .int 0, .null, .null, .null, .null, .null, .null])), (q_1, .inr (9, [.null, .int 0]))] H := hP
  have hD : va_D A [(h0, .inr (11, [.null, .null, .null, .null, .null, .null, .int 0, .null, .null, .null, .null, .null, .null])), (q_1, .inr (9, [.null, .int 0]))] := hD
  refine W.widen (k := 1) (n := 2) (Nat.le_of_ble_eq_true rfl) (Nat.le_of_ble_eq_true rfl) ?_
  refine lv_dup hx hb dX11_init_8 rfl ?_
  have hPc := hP.sub (ws' := [(q_1, .inr (9, [.null, .int 0]))]) [1] rfl
  have hDc := hD.sub (ws' := [(q_1, .inr (9, [.null, .int 0]))]) [1] (by decide) rfl
  have hFc := va_free (wc := [(q_1, .inr (9, [.null, .int 0]))]) hD hS hA [1] rfl
  refine va_callv (va_runIN (As := []) (rest := [.ref q_1, .ref h0]) ⟨hx, hb, hml, hown, hts⟩ (c_Tape_init l dC dI cy q_1 H.size) ⟨va_cnB 0 hts gX11_init_X9_init_n9 rfl rfl rfl (hN.1 _ (List.mem_of_getElem? (i := 0) rfl)) (hts (.initialized RX9) (List.mem_of_getElem? (i := 6) rfl)) (by decide +kernel) ⟨Nat.le_of_ble_eq_true rfl, Nat.le_of_ble_eq_true rfl⟩, rfl, (hts (.instanceMethod yX9_init) (List.mem_of_getElem? (i := 50) rfl))⟩ (wp_S hK hN hPc hDc) rfl rfl hl.1 rfl (lv_room (Nat.le_of_ble_eq_true rfl)) dX11_init_9 ⟨Nat.le_of_ble_eq_true rfl, Nat.le_of_ble_eq_true rfl⟩) hS (fun q _ h => hFc q h) hFc (fun u_2 t H1 locs ht hvm hw_2 hB hz1 hk1 hS => ?_)
  obtain ⟨hP1, hD1⟩ := hB
  rw [ht] at hP1
  obtain ⟨hP, hD⟩ := va_join (wr := [(h0, .inr (11, [.null, .null, .null, .null, .null, .null, .int 0, .null, .null, .null, .null, .null, .null]))]) (w1 := [(q_1, .inr (9, [.ref (u_2 0), .int 0])), ((u_2 0), .inl (cy 1, 80, .inl (fun _ => 0)))]) hP hD [1] [0] rfl rfl (by decide) (by decide) hk1 hFc hP1 hD1
  generalize H1 = H at hP hS ⊢
  have hP : va_P (dC, dI) vwCl [(h0, .inr (11, [.null, .null, .null, .null, .null, .null, .int 0, .null, .null, .null, .null, .null, .null])), (q_1, .inr (9, [.ref (u_2 0), .int 0])), ((u_2 0), .inl (cy 1, 80, .inl (fun _ => 0)))] H := hP
  have hD : va_D A [(h0, .inr (11, [.null, .null, .null, .null, .null, .null, .int 0, .null, .null, .null, .null, .null, .null])), (q_1, .inr (9, [.ref (u_2 0), .int 0])), ((u_2 0), .inl (cy 1, 80, .inl (fun _ => 0)))] := hD
  refine W.widen (k := 2) (n := 82) (Nat.le_of_ble_eq_true rfl) (Nat.le_of_ble_eq_true rfl) ?_
  refine va_putF (D := (dC, dI)) (ci := 11) (v := .ref q_1) (C := RX11) (T := TX11) (N := 13) hx hb hts (fun _ h9 => List.mem_cons_of_mem _ (List.mem_append_left _ (List.mem_append_left _ (List.mem_append_left _ (List.mem_append_left _ (List.mem_append_left _ (List.mem_append_left _ (List.mem_append_left _ (List.mem_append_left _ (List.mem_append_left _ (List.mem_append_left _ (List.mem_append_right _ h9)))))))))))) tyX11 tyX11_ok nmX11 hown hK hP hD hS 0 rfl rfl 0 (by decide) (hts (.fieldLink RX11 10 "SeatsRound" "tape" "LSeatsRound$Tape;") (List.mem_of_getElem? (i := 7) rfl)) (fun _ h9 => h9) rfl hin rfl (tyX11_ok 0 (by decide)) rfl rfl (Nat.le_of_ble_eq_true rfl) dX11_init_12 (fun H locs hP hD hS => ?_)
  have hP : va_P (dC, dI) vwCl [(h0, .inr (11, [.ref q_1, .null, .null, .null, .null, .null, .int 0, .null, .null, .null, .null, .null, .null])), (q_1, .inr (9, [.ref (u_2 0), .int 0])), ((u_2 0), .inl (cy 1, 80, .inl (fun _ => 0)))] H := hP
  have hD : va_D A [(h0, .inr (11, [.ref q_1, .null, .null, .null, .null, .null, .int 0, .null, .null, .null, .null, .null, .null])), (q_1, .inr (9, [.ref (u_2 0), .int 0])), ((u_2 0), .inl (cy 1, 80, .inl (fun _ => 0)))] := hD
  refine lv_aload_n hx hb dX11_init_15 rfl (lv_at hl 0 rfl) ?_
  refine va_new (ci := 4) (fs := [.null, .null, .null, .int 0]) (C := RX4) (T := TX4) (N := 4) hx hb hts (fun _ h9 => List.mem_cons_of_mem _ (List.mem_append_left _ (List.mem_append_left _ (List.mem_append_left _ (List.mem_append_left _ (List.mem_append_left _ (List.mem_append_left _ (List.mem_append_left _ (List.mem_append_left _ (List.mem_append_left _ (List.mem_append_right _ h9))))))))))) tyX4 tyX4_ok hown (hts (.classLink RX11 16 RX4) (List.mem_of_getElem? (i := 8) rfl)) (hts (.instantiable RX4 4) (List.mem_of_getElem? (i := 9) rfl)) (hts (.initialized RX4) (List.mem_of_getElem? (i := 10) rfl)) hK hP hD hS hA rfl (fun j hj => vz_dfX4 j hj) (Nat.le_of_ble_eq_true rfl) (Nat.le_of_ble_eq_true rfl) dX11_init_16 (fun q_3 H hP hD hS => ?_)
  have hP : va_P (dC, dI) vwCl [(h0, .inr (11, [.ref q_1, .null, .null, .null, .null, .null, .int 0, .null, .null, .null, .null, .null, .null])), (q_1, .inr (9, [.ref (u_2 0), .int 0])), ((u_2 0), .inl (cy 1, 80, .inl (fun _ => 0))), (q_3, .inr (4, [.null, .null, .null, .int 0]))] H := hP
  have hD : va_D A [(h0, .inr (11, [.ref q_1, .null, .null, .null, .null, .null, .int 0, .null, .null, .null, .null, .null, .null])), (q_1, .inr (9, [.ref (u_2 0), .int 0])), ((u_2 0), .inl (cy 1, 80, .inl (fun _ => 0))), (q_3, .inr (4, [.null, .null, .null, .int 0]))] := hD
  refine W.widen (k := 3) (n := 86) (Nat.le_of_ble_eq_true rfl) (Nat.le_of_ble_eq_true rfl) ?_
  refine lv_dup hx hb dX11_init_19 rfl ?_
  have hPc := hP.sub (ws' := [(q_3, .inr (4, [.null, .null, .null, .int 0]))]) [3] rfl
  have hDc := hD.sub (ws' := [(q_3, .inr (4, [.null, .null, .null, .int 0]))]) [3] (by decide) rfl
  have hFc := va_free (wc := [(q_3, .inr (4, [.null, .null, .null, .int 0]))]) hD hS hA [3] rfl
  refine va_callv (va_runIN (As := []) (rest := [.ref q_3, .ref h0]) ⟨hx, hb, hml, hown, hts⟩ (c_NameList_init l dC dI cy q_3 H.size) ⟨va_cnB 0 hts gX11_init_X4_init_n18 rfl rfl rfl (hN.1 _ (List.mem_of_getElem? (i := 1) rfl)) (hts (.initialized RX4) (List.mem_of_getElem? (i := 10) rfl)) (by decide +kernel) ⟨Nat.le_of_ble_eq_true rfl, Nat.le_of_ble_eq_true rfl⟩, rfl, (hts (.instanceMethod yX4_init) (List.mem_of_getElem? (i := 56) rfl))⟩ (wp_S hK hN hPc hDc) rfl rfl hl.1 rfl (lv_room (Nat.le_of_ble_eq_true rfl)) dX11_init_20 ⟨Nat.le_of_ble_eq_true rfl, Nat.le_of_ble_eq_true rfl⟩) hS (fun q _ h => hFc q h) hFc (fun u_4 t H1 locs ht hvm hw_4 hB hz1 hk1 hS => ?_)
  obtain ⟨hP1, hD1⟩ := hB
  rw [ht] at hP1
  obtain ⟨hP, hD⟩ := va_join (wr := [(h0, .inr (11, [.ref q_1, .null, .null, .null, .null, .null, .int 0, .null, .null, .null, .null, .null, .null])), (q_1, .inr (9, [.ref (u_2 0), .int 0])), ((u_2 0), .inl (cy 1, 80, .inl (fun _ => 0)))]) (w1 := [(q_3, .inr (4, [.ref (u_4 0), .ref (u_4 1), .ref (u_4 2), .int 0]))]) hP hD [3] [0, 1, 2] rfl rfl (by decide) (by decide) hk1 hFc hP1 hD1
  generalize H1 = H at hP hS ⊢
  have hP : va_P (dC, dI) vwCl [(h0, .inr (11, [.ref q_1, .null, .null, .null, .null, .null, .int 0, .null, .null, .null, .null, .null, .null])), (q_1, .inr (9, [.ref (u_2 0), .int 0])), ((u_2 0), .inl (cy 1, 80, .inl (fun _ => 0))), (q_3, .inr (4, [.ref (u_4 0), .ref (u_4 1), .ref (u_4 2), .int 0]))] H := hP
  have hD : va_D A [(h0, .inr (11, [.ref q_1, .null, .null, .null, .null, .null, .int 0, .null, .null, .null, .null, .null, .null])), (q_1, .inr (9, [.ref (u_2 0), .int 0])), ((u_2 0), .inl (cy 1, 80, .inl (fun _ => 0))), (q_3, .inr (4, [.ref (u_4 0), .ref (u_4 1), .ref (u_4 2), .int 0]))] := hD
  refine W.widen (k := 46) (n := 412) (Nat.le_of_ble_eq_true rfl) (Nat.le_of_ble_eq_true rfl) ?_
  refine va_putF (D := (dC, dI)) (ci := 11) (v := .ref q_3) (C := RX11) (T := TX11) (N := 13) hx hb hts (fun _ h9 => List.mem_cons_of_mem _ (List.mem_append_left _ (List.mem_append_left _ (List.mem_append_left _ (List.mem_append_left _ (List.mem_append_left _ (List.mem_append_left _ (List.mem_append_left _ (List.mem_append_left _ (List.mem_append_left _ (List.mem_append_left _ (List.mem_append_right _ h9)))))))))))) tyX11 tyX11_ok nmX11 hown hK hP hD hS 0 rfl rfl 1 (by decide) (hts (.fieldLink RX11 19 "SeatsRound" "nameList" "LSeatsRound$NameList;") (List.mem_of_getElem? (i := 11) rfl)) (fun _ h9 => h9) rfl hin rfl (tyX11_ok 1 (by decide)) rfl rfl (Nat.le_of_ble_eq_true rfl) dX11_init_23 (fun H locs hP hD hS => ?_)
  have hP : va_P (dC, dI) vwCl [(h0, .inr (11, [.ref q_1, .ref q_3, .null, .null, .null, .null, .int 0, .null, .null, .null, .null, .null, .null])), (q_1, .inr (9, [.ref (u_2 0), .int 0])), ((u_2 0), .inl (cy 1, 80, .inl (fun _ => 0))), (q_3, .inr (4, [.ref (u_4 0), .ref (u_4 1), .ref (u_4 2), .int 0]))] H := hP
  have hD : va_D A [(h0, .inr (11, [.ref q_1, .ref q_3, .null, .null, .null, .null, .int 0, .null, .null, .null, .null, .null, .null])), (q_1, .inr (9, [.ref (u_2 0), .int 0])), ((u_2 0), .inl (cy 1, 80, .inl (fun _ => 0))), (q_3, .inr (4, [.ref (u_4 0), .ref (u_4 1), .ref (u_4 2), .int 0]))] := hD
  refine lv_aload_n hx hb dX11_init_26 rfl (lv_at hl 0 rfl) ?_
  refine va_new (ci := 2) (fs := [.null, .null, .null, .null, .null, .int 0]) (C := RX2) (T := TX2) (N := 6) hx hb hts (fun _ h9 => List.mem_cons_of_mem _ (List.mem_append_left _ (List.mem_append_left _ (List.mem_append_left _ (List.mem_append_left _ (List.mem_append_left _ (List.mem_append_left _ (List.mem_append_left _ (List.mem_append_left _ (List.mem_append_right _ h9)))))))))) tyX2 tyX2_ok hown (hts (.classLink RX11 23 RX2) (List.mem_of_getElem? (i := 12) rfl)) (hts (.instantiable RX2 6) (List.mem_of_getElem? (i := 13) rfl)) (hts (.initialized RX2) (List.mem_of_getElem? (i := 14) rfl)) hK hP hD hS hA rfl (fun j hj => vz_dfX2 j hj) (Nat.le_of_ble_eq_true rfl) (Nat.le_of_ble_eq_true rfl) dX11_init_27 (fun q_5 H hP hD hS => ?_)
  have hP : va_P (dC, dI) vwCl [(h0, .inr (11, [.ref q_1, .ref q_3, .null, .null, .null, .null, .int 0, .null, .null, .null, .null, .null, .null])), (q_1, .inr (9, [.ref (u_2 0), .int 0])), ((u_2 0), .inl (cy 1, 80, .inl (fun _ => 0))), (q_3, .inr (4, [.ref (u_4 0), .ref (u_4 1), .ref (u_4 2), .int 0])), (q_5, .inr (2, [.null, .null, .null, .null, .null, .int 0]))] H := hP
  have hD : va_D A [(h0, .inr (11, [.ref q_1, .ref q_3, .null, .null, .null, .null, .int 0, .null, .null, .null, .null, .null, .null])), (q_1, .inr (9, [.ref (u_2 0), .int 0])), ((u_2 0), .inl (cy 1, 80, .inl (fun _ => 0))), (q_3, .inr (4, [.ref (u_4 0), .ref (u_4 1), .ref (u_4 2), .int 0])), (q_5, .inr (2, [.null, .null, .null, .null, .null, .int 0]))] := hD
  refine W.widen (k := 47) (n := 418) (Nat.le_of_ble_eq_true rfl) (Nat.le_of_ble_eq_true rfl) ?_
  refine lv_dup hx hb dX11_init_30 rfl ?_
  have hPc := hP.sub (ws' := [(q_5, .inr (2, [.null, .null, .null, .null, .null, .int 0]))]) [4] rfl
  have hDc := hD.sub (ws' := [(q_5, .inr (2, [.null, .null, .null, .null, .null, .int 0]))]) [4] (by decide) rfl
  have hFc := va_free (wc := [(q_5, .inr (2, [.null, .null, .null, .null, .null, .int 0]))]) hD hS hA [4] rfl
  refine va_callv (va_runIN (As := []) (rest := [.ref q_5, .ref h0]) ⟨hx, hb, hml, hown, hts⟩ (c_Keepers_init l dC dI cy q_5 H.size) ⟨va_cnB 0 hts gX11_init_X2_init_n25 rfl rfl rfl (hN.1 _ (List.mem_of_getElem? (i := 2) rfl)) (hts (.initialized RX2) (List.mem_of_getElem? (i := 14) rfl)) (by decide +kernel) ⟨Nat.le_of_ble_eq_true rfl, Nat.le_of_ble_eq_true rfl⟩, rfl, (hts (.instanceMethod yX2_init) (List.mem_of_getElem? (i := 65) rfl))⟩ (wp_S hK hN hPc hDc) rfl rfl hl.1 rfl (lv_room (Nat.le_of_ble_eq_true rfl)) dX11_init_31 ⟨Nat.le_of_ble_eq_true rfl, Nat.le_of_ble_eq_true rfl⟩) hS (fun q _ h => hFc q h) hFc (fun u_6 t H1 locs ht hvm hw_6 hB hz1 hk1 hS => ?_)
  obtain ⟨hP1, hD1⟩ := hB
  rw [ht] at hP1
  obtain ⟨hP, hD⟩ := va_join (wr := [(h0, .inr (11, [.ref q_1, .ref q_3, .null, .null, .null, .null, .int 0, .null, .null, .null, .null, .null, .null])), (q_1, .inr (9, [.ref (u_2 0), .int 0])), ((u_2 0), .inl (cy 1, 80, .inl (fun _ => 0))), (q_3, .inr (4, [.ref (u_4 0), .ref (u_4 1), .ref (u_4 2), .int 0]))]) (w1 := [(q_5, .inr (2, [.ref (u_6 0), .ref (u_6 1), .ref (u_6 2), .ref (u_6 3), .ref (u_6 4), .int 0])), ((u_6 0), .inl (cy 0, 12, .inl (fun _ => 0))), ((u_6 1), .inl (cy 0, 12, .inl (fun _ => 0))), ((u_6 2), .inl (cy 0, 12, .inl (fun _ => 0))), ((u_6 3), .inl (cy 0, 12, .inl (fun _ => 0)))]) hP hD [4] [0, 1, 2, 3] rfl rfl (by decide) (by decide) hk1 hFc hP1 hD1
  generalize H1 = H at hP hS ⊢
  have hP : va_P (dC, dI) vwCl [(h0, .inr (11, [.ref q_1, .ref q_3, .null, .null, .null, .null, .int 0, .null, .null, .null, .null, .null, .null])), (q_1, .inr (9, [.ref (u_2 0), .int 0])), ((u_2 0), .inl (cy 1, 80, .inl (fun _ => 0))), (q_3, .inr (4, [.ref (u_4 0), .ref (u_4 1), .ref (u_4 2), .int 0])), (q_5, .inr (2, [.ref (u_6 0), .ref (u_6 1), .ref (u_6 2), .ref (u_6 3), .ref (u_6 4), .int 0])), ((u_6 0), .inl (cy 0, 12, .inl (fun _ => 0))), ((u_6 1), .inl (cy 0, 12, .inl (fun _ => 0))), ((u_6 2), .inl (cy 0, 12, .inl (fun _ => 0))), ((u_6 3), .inl (cy 0, 12, .inl (fun _ => 0)))] H := hP
  have hD : va_D A [(h0, .inr (11, [.ref q_1, .ref q_3, .null, .null, .null, .null, .int 0, .null, .null, .null, .null, .null, .null])), (q_1, .inr (9, [.ref (u_2 0), .int 0])), ((u_2 0), .inl (cy 1, 80, .inl (fun _ => 0))), (q_3, .inr (4, [.ref (u_4 0), .ref (u_4 1), .ref (u_4 2), .int 0])), (q_5, .inr (2, [.ref (u_6 0), .ref (u_6 1), .ref (u_6 2), .ref (u_6 3), .ref (u_6 4), .int 0])), ((u_6 0), .inl (cy 0, 12, .inl (fun _ => 0))), ((u_6 1), .inl (cy 0, 12, .inl (fun _ => 0))), ((u_6 2), .inl (cy 0, 12, .inl (fun _ => 0))), ((u_6 3), .inl (cy 0, 12, .inl (fun _ => 0)))] := hD
  refine W.widen (k := 52) (n := 478) (Nat.le_of_ble_eq_true rfl) (Nat.le_of_ble_eq_true rfl) ?_
  refine va_putF (D := (dC, dI)) (ci := 11) (v := .ref q_5) (C := RX11) (T := TX11) (N := 13) hx hb hts (fun _ h9 => List.mem_cons_of_mem _ (List.mem_append_left _ (List.mem_append_left _ (List.mem_append_left _ (List.mem_append_left _ (List.mem_append_left _ (List.mem_append_left _ (List.mem_append_left _ (List.mem_append_left _ (List.mem_append_left _ (List.mem_append_left _ (List.mem_append_right _ h9)))))))))))) tyX11 tyX11_ok nmX11 hown hK hP hD hS 0 rfl rfl 2 (by decide) (hts (.fieldLink RX11 26 "SeatsRound" "keepers" "LSeatsRound$Keepers;") (List.mem_of_getElem? (i := 15) rfl)) (fun _ h9 => h9) rfl hin rfl (tyX11_ok 2 (by decide)) rfl rfl (Nat.le_of_ble_eq_true rfl) dX11_init_34 (fun H locs hP hD hS => ?_)
  have hP : va_P (dC, dI) vwCl [(h0, .inr (11, [.ref q_1, .ref q_3, .ref q_5, .null, .null, .null, .int 0, .null, .null, .null, .null, .null, .null])), (q_1, .inr (9, [.ref (u_2 0), .int 0])), ((u_2 0), .inl (cy 1, 80, .inl (fun _ => 0))), (q_3, .inr (4, [.ref (u_4 0), .ref (u_4 1), .ref (u_4 2), .int 0])), (q_5, .inr (2, [.ref (u_6 0), .ref (u_6 1), .ref (u_6 2), .ref (u_6 3), .ref (u_6 4), .int 0])), ((u_6 0), .inl (cy 0, 12, .inl (fun _ => 0))), ((u_6 1), .inl (cy 0, 12, .inl (fun _ => 0))), ((u_6 2), .inl (cy 0, 12, .inl (fun _ => 0))), ((u_6 3), .inl (cy 0, 12, .inl (fun _ => 0)))] H := hP
  have hD : va_D A [(h0, .inr (11, [.ref q_1, .ref q_3, .ref q_5, .null, .null, .null, .int 0, .null, .null, .null, .null, .null, .null])), (q_1, .inr (9, [.ref (u_2 0), .int 0])), ((u_2 0), .inl (cy 1, 80, .inl (fun _ => 0))), (q_3, .inr (4, [.ref (u_4 0), .ref (u_4 1), .ref (u_4 2), .int 0])), (q_5, .inr (2, [.ref (u_6 0), .ref (u_6 1), .ref (u_6 2), .ref (u_6 3), .ref (u_6 4), .int 0])), ((u_6 0), .inl (cy 0, 12, .inl (fun _ => 0))), ((u_6 1), .inl (cy 0, 12, .inl (fun _ => 0))), ((u_6 2), .inl (cy 0, 12, .inl (fun _ => 0))), ((u_6 3), .inl (cy 0, 12, .inl (fun _ => 0)))] := hD
  refine lv_aload_n hx hb dX11_init_37 rfl (lv_at hl 0 rfl) ?_
  refine va_new (ci := 3) (fs := [.null, .int 0, .int 0, .int 0, .int 0, .int 0, .int 0, .int 0]) (C := RX3) (T := TX3) (N := 8) hx hb hts (fun _ h9 => List.mem_cons_of_mem _ (List.mem_append_left _ (List.mem_append_left _ (List.mem_append_left _ (List.mem_append_left _ (List.mem_append_left _ (List.mem_append_left _ (List.mem_append_left _ (List.mem_append_right _ h9))))))))) tyX3 tyX3_ok hown (hts (.classLink RX11 30 RX3) (List.mem_of_getElem? (i := 16) rfl)) (hts (.instantiable RX3 8) (List.mem_of_getElem? (i := 17) rfl)) (hts (.initialized RX3) (List.mem_of_getElem? (i := 18) rfl)) hK hP hD hS hA rfl (fun j hj => vz_dfX3 j hj) (Nat.le_of_ble_eq_true rfl) (Nat.le_of_ble_eq_true rfl) dX11_init_38 (fun q_7 H hP hD hS => ?_)
  have hP : va_P (dC, dI) vwCl [(h0, .inr (11, [.ref q_1, .ref q_3, .ref q_5, .null, .null, .null, .int 0, .null, .null, .null, .null, .null, .null])), (q_1, .inr (9, [.ref (u_2 0), .int 0])), ((u_2 0), .inl (cy 1, 80, .inl (fun _ => 0))), (q_3, .inr (4, [.ref (u_4 0), .ref (u_4 1), .ref (u_4 2), .int 0])), (q_5, .inr (2, [.ref (u_6 0), .ref (u_6 1), .ref (u_6 2), .ref (u_6 3), .ref (u_6 4), .int 0])), ((u_6 0), .inl (cy 0, 12, .inl (fun _ => 0))), ((u_6 1), .inl (cy 0, 12, .inl (fun _ => 0))), ((u_6 2), .inl (cy 0, 12, .inl (fun _ => 0))), ((u_6 3), .inl (cy 0, 12, .inl (fun _ => 0))), (q_7, .inr (3, [.null, .int 0, .int 0, .int 0, .int 0, .int 0, .int 0, .int 0]))] H := hP
  have hD : va_D A [(h0, .inr (11, [.ref q_1, .ref q_3, .ref q_5, .null, .null, .null, .int 0, .null, .null, .null, .null, .null, .null])), (q_1, .inr (9, [.ref (u_2 0), .int 0])), ((u_2 0), .inl (cy 1, 80, .inl (fun _ => 0))), (q_3, .inr (4, [.ref (u_4 0), .ref (u_4 1), .ref (u_4 2), .int 0])), (q_5, .inr (2, [.ref (u_6 0), .ref (u_6 1), .ref (u_6 2), .ref (u_6 3), .ref (u_6 4), .int 0])), ((u_6 0), .inl (cy 0, 12, .inl (fun _ => 0))), ((u_6 1), .inl (cy 0, 12, .inl (fun _ => 0))), ((u_6 2), .inl (cy 0, 12, .inl (fun _ => 0))), ((u_6 3), .inl (cy 0, 12, .inl (fun _ => 0))), (q_7, .inr (3, [.null, .int 0, .int 0, .int 0, .int 0, .int 0, .int 0, .int 0]))] := hD
  refine W.widen (k := 53) (n := 486) (Nat.le_of_ble_eq_true rfl) (Nat.le_of_ble_eq_true rfl) ?_
  refine lv_dup hx hb dX11_init_41 rfl ?_
  have hPc := hP.sub (ws' := [(q_7, .inr (3, [.null, .int 0, .int 0, .int 0, .int 0, .int 0, .int 0, .int 0]))]) [9] rfl
  have hDc := hD.sub (ws' := [(q_7, .inr (3, [.null, .int 0, .int 0, .int 0, .int 0, .int 0, .int 0, .int 0]))]) [9] (by decide) rfl
  have hFc := va_free (wc := [(q_7, .inr (3, [.null, .int 0, .int 0, .int 0, .int 0, .int 0, .int 0, .int 0]))]) hD hS hA [9] rfl
  refine va_callv (va_runIN (As := []) (rest := [.ref q_7, .ref h0]) ⟨hx, hb, hml, hown, hts⟩ (c_Law_init l dC dI cy q_7 H.size) ⟨va_cnB 0 hts gX11_init_X3_init_n32 rfl rfl rfl (hN.1 _ (List.mem_of_getElem? (i := 3) rfl)) (hts (.initialized RX3) (List.mem_of_getElem? (i := 18) rfl)) (by decide +kernel) ⟨Nat.le_of_ble_eq_true rfl, Nat.le_of_ble_eq_true rfl⟩, rfl, (hts (.instanceMethod yX3_init) (List.mem_of_getElem? (i := 75) rfl))⟩ (wp_S hK hN hPc hDc) rfl rfl hl.1 rfl (lv_room (Nat.le_of_ble_eq_true rfl)) dX11_init_42 ⟨Nat.le_of_ble_eq_true rfl, Nat.le_of_ble_eq_true rfl⟩) hS (fun q _ h => hFc q h) hFc (fun u_8 t H1 locs ht hvm hw_8 hB hz1 hk1 hS => ?_)
  obtain ⟨hP1, hD1⟩ := hB
  rw [ht] at hP1
  obtain ⟨hP, hD⟩ := va_join (wr := [(h0, .inr (11, [.ref q_1, .ref q_3, .ref q_5, .null, .null, .null, .int 0, .null, .null, .null, .null, .null, .null])), (q_1, .inr (9, [.ref (u_2 0), .int 0])), ((u_2 0), .inl (cy 1, 80, .inl (fun _ => 0))), (q_3, .inr (4, [.ref (u_4 0), .ref (u_4 1), .ref (u_4 2), .int 0])), (q_5, .inr (2, [.ref (u_6 0), .ref (u_6 1), .ref (u_6 2), .ref (u_6 3), .ref (u_6 4), .int 0])), ((u_6 0), .inl (cy 0, 12, .inl (fun _ => 0))), ((u_6 1), .inl (cy 0, 12, .inl (fun _ => 0))), ((u_6 2), .inl (cy 0, 12, .inl (fun _ => 0))), ((u_6 3), .inl (cy 0, 12, .inl (fun _ => 0)))]) (w1 := []) hP hD [9] [0, 1, 2, 3, 4, 5, 6, 7, 8] rfl rfl (by decide) (by decide) hk1 hFc hP1 hD1
  generalize H1 = H at hP hS ⊢
  have hP : va_P (dC, dI) vwCl [(h0, .inr (11, [.ref q_1, .ref q_3, .ref q_5, .null, .null, .null, .int 0, .null, .null, .null, .null, .null, .null])), (q_1, .inr (9, [.ref (u_2 0), .int 0])), ((u_2 0), .inl (cy 1, 80, .inl (fun _ => 0))), (q_3, .inr (4, [.ref (u_4 0), .ref (u_4 1), .ref (u_4 2), .int 0])), (q_5, .inr (2, [.ref (u_6 0), .ref (u_6 1), .ref (u_6 2), .ref (u_6 3), .ref (u_6 4), .int 0])), ((u_6 0), .inl (cy 0, 12, .inl (fun _ => 0))), ((u_6 1), .inl (cy 0, 12, .inl (fun _ => 0))), ((u_6 2), .inl (cy 0, 12, .inl (fun _ => 0))), ((u_6 3), .inl (cy 0, 12, .inl (fun _ => 0)))] H := hP
  have hD : va_D A [(h0, .inr (11, [.ref q_1, .ref q_3, .ref q_5, .null, .null, .null, .int 0, .null, .null, .null, .null, .null, .null])), (q_1, .inr (9, [.ref (u_2 0), .int 0])), ((u_2 0), .inl (cy 1, 80, .inl (fun _ => 0))), (q_3, .inr (4, [.ref (u_4 0), .ref (u_4 1), .ref (u_4 2), .int 0])), (q_5, .inr (2, [.ref (u_6 0), .ref (u_6 1), .ref (u_6 2), .ref (u_6 3), .ref (u_6 4), .int 0])), ((u_6 0), .inl (cy 0, 12, .inl (fun _ => 0))), ((u_6 1), .inl (cy 0, 12, .inl (fun _ => 0))), ((u_6 2), .inl (cy 0, 12, .inl (fun _ => 0))), ((u_6 3), .inl (cy 0, 12, .inl (fun _ => 0)))] := hD
  refine W.widen (k := 54) (n := 486) (Nat.le_of_ble_eq_true rfl) (Nat.le_of_ble_eq_true rfl) ?_
  refine va_putF (D := (dC, dI)) (ci := 11) (v := .ref q_7) (C := RX11) (T := TX11) (N := 13) hx hb hts (fun _ h9 => List.mem_cons_of_mem _ (List.mem_append_left _ (List.mem_append_left _ (List.mem_append_left _ (List.mem_append_left _ (List.mem_append_left _ (List.mem_append_left _ (List.mem_append_left _ (List.mem_append_left _ (List.mem_append_left _ (List.mem_append_left _ (List.mem_append_right _ h9)))))))))))) tyX11 tyX11_ok nmX11 hown hK hP hD hS 0 rfl rfl 3 (by decide) (hts (.fieldLink RX11 33 "SeatsRound" "law" "LSeatsRound$Law;") (List.mem_of_getElem? (i := 19) rfl)) (fun _ h9 => h9) rfl hin rfl (tyX11_ok 3 (by decide)) rfl rfl (Nat.le_of_ble_eq_true rfl) dX11_init_45 (fun H locs hP hD hS => ?_)
  have hP : va_P (dC, dI) vwCl [(h0, .inr (11, [.ref q_1, .ref q_3, .ref q_5, .ref q_7, .null, .null, .int 0, .null, .null, .null, .null, .null, .null])), (q_1, .inr (9, [.ref (u_2 0), .int 0])), ((u_2 0), .inl (cy 1, 80, .inl (fun _ => 0))), (q_3, .inr (4, [.ref (u_4 0), .ref (u_4 1), .ref (u_4 2), .int 0])), (q_5, .inr (2, [.ref (u_6 0), .ref (u_6 1), .ref (u_6 2), .ref (u_6 3), .ref (u_6 4), .int 0])), ((u_6 0), .inl (cy 0, 12, .inl (fun _ => 0))), ((u_6 1), .inl (cy 0, 12, .inl (fun _ => 0))), ((u_6 2), .inl (cy 0, 12, .inl (fun _ => 0))), ((u_6 3), .inl (cy 0, 12, .inl (fun _ => 0)))] H := hP
  have hD : va_D A [(h0, .inr (11, [.ref q_1, .ref q_3, .ref q_5, .ref q_7, .null, .null, .int 0, .null, .null, .null, .null, .null, .null])), (q_1, .inr (9, [.ref (u_2 0), .int 0])), ((u_2 0), .inl (cy 1, 80, .inl (fun _ => 0))), (q_3, .inr (4, [.ref (u_4 0), .ref (u_4 1), .ref (u_4 2), .int 0])), (q_5, .inr (2, [.ref (u_6 0), .ref (u_6 1), .ref (u_6 2), .ref (u_6 3), .ref (u_6 4), .int 0])), ((u_6 0), .inl (cy 0, 12, .inl (fun _ => 0))), ((u_6 1), .inl (cy 0, 12, .inl (fun _ => 0))), ((u_6 2), .inl (cy 0, 12, .inl (fun _ => 0))), ((u_6 3), .inl (cy 0, 12, .inl (fun _ => 0)))] := hD
  refine lv_aload_n hx hb dX11_init_48 rfl (lv_at hl 0 rfl) ?_
  refine va_new (ci := 1) (fs := [.null, .null, .int 0, .int 0, .int 0, .int 0, .int 0, .null, .null]) (C := RX1) (T := TX1) (N := 9) hx hb hts (fun _ h9 => List.mem_cons_of_mem _ (List.mem_append_left _ (List.mem_append_left _ (List.mem_append_left _ (List.mem_append_left _ (List.mem_append_left _ (List.mem_append_left _ (List.mem_append_right _ h9)))))))) tyX1 tyX1_ok hown (hts (.classLink RX11 37 RX1) (List.mem_of_getElem? (i := 20) rfl)) (hts (.instantiable RX1 9) (List.mem_of_getElem? (i := 21) rfl)) (hts (.initialized RX1) (List.mem_of_getElem? (i := 22) rfl)) hK hP hD hS hA rfl (fun j hj => vz_dfX1 j hj) (Nat.le_of_ble_eq_true rfl) (Nat.le_of_ble_eq_true rfl) dX11_init_49 (fun q_9 H hP hD hS => ?_)
  have hP : va_P (dC, dI) vwCl [(h0, .inr (11, [.ref q_1, .ref q_3, .ref q_5, .ref q_7, .null, .null, .int 0, .null, .null, .null, .null, .null, .null])), (q_1, .inr (9, [.ref (u_2 0), .int 0])), ((u_2 0), .inl (cy 1, 80, .inl (fun _ => 0))), (q_3, .inr (4, [.ref (u_4 0), .ref (u_4 1), .ref (u_4 2), .int 0])), (q_5, .inr (2, [.ref (u_6 0), .ref (u_6 1), .ref (u_6 2), .ref (u_6 3), .ref (u_6 4), .int 0])), ((u_6 0), .inl (cy 0, 12, .inl (fun _ => 0))), ((u_6 1), .inl (cy 0, 12, .inl (fun _ => 0))), ((u_6 2), .inl (cy 0, 12, .inl (fun _ => 0))), ((u_6 3), .inl (cy 0, 12, .inl (fun _ => 0))), (q_9, .inr (1, [.null, .null, .int 0, .int 0, .int 0, .int 0, .int 0, .null, .null]))] H := hP
  have hD : va_D A [(h0, .inr (11, [.ref q_1, .ref q_3, .ref q_5, .ref q_7, .null, .null, .int 0, .null, .null, .null, .null, .null, .null])), (q_1, .inr (9, [.ref (u_2 0), .int 0])), ((u_2 0), .inl (cy 1, 80, .inl (fun _ => 0))), (q_3, .inr (4, [.ref (u_4 0), .ref (u_4 1), .ref (u_4 2), .int 0])), (q_5, .inr (2, [.ref (u_6 0), .ref (u_6 1), .ref (u_6 2), .ref (u_6 3), .ref (u_6 4), .int 0])), ((u_6 0), .inl (cy 0, 12, .inl (fun _ => 0))), ((u_6 1), .inl (cy 0, 12, .inl (fun _ => 0))), ((u_6 2), .inl (cy 0, 12, .inl (fun _ => 0))), ((u_6 3), .inl (cy 0, 12, .inl (fun _ => 0))), (q_9, .inr (1, [.null, .null, .int 0, .int 0, .int 0, .int 0, .int 0, .null, .null]))] := hD
  refine W.widen (k := 55) (n := 495) (Nat.le_of_ble_eq_true rfl) (Nat.le_of_ble_eq_true rfl) ?_
  refine lv_dup hx hb dX11_init_52 rfl ?_
  refine lv_aload_n hx hb dX11_init_53 rfl (lv_at hl 0 rfl) ?_
  refine va_get (D := (dC, dI)) (ci := 11) (v := .ref q_5) (C := RX11) (T := TX11) (N := 13) hx hb hts (fun _ h9 => List.mem_cons_of_mem _ (List.mem_append_left _ (List.mem_append_left _ (List.mem_append_left _ (List.mem_append_left _ (List.mem_append_left _ (List.mem_append_left _ (List.mem_append_left _ (List.mem_append_left _ (List.mem_append_left _ (List.mem_append_left _ (List.mem_append_right _ h9)))))))))))) hown hK hP 0 rfl rfl 2 (by decide) (hts (.fieldLink RX11 26 "SeatsRound" "keepers" "LSeatsRound$Keepers;") (List.mem_of_getElem? (i := 15) rfl)) (fun _ h9 => h9) rfl dX11_init_54 ?_
  have hPc := hP.sub (ws' := [(q_9, .inr (1, [.null, .null, .int 0, .int 0, .int 0, .int 0, .int 0, .null, .null]))]) [9] rfl
  have hDc := hD.sub (ws' := [(q_9, .inr (1, [.null, .null, .int 0, .int 0, .int 0, .int 0, .int 0, .null, .null]))]) [9] (by decide) rfl
  have hFc := va_free (wc := [(q_9, .inr (1, [.null, .null, .int 0, .int 0, .int 0, .int 0, .int 0, .null, .null]))]) hD hS hA [9] rfl
  refine va_callv (va_runI (As := [.ref q_5]) (rest := [.ref q_9, .ref h0]) ⟨hx, hb, hml, hown, hts⟩ (c_Choice_init l dC dI cy q_9 q_5 H.size) (cwI 1 hts gX11_init_X1_init rfl rfl rfl (hts (.initialized RX1) (List.mem_of_getElem? (i := 22) rfl)) (hts (.methodLink RX11 39 yX1_init) (List.mem_of_getElem? (i := 86) rfl)) (hts (.instanceMethod yX1_init) (List.mem_of_getElem? (i := 87) rfl)) rfl (by decide +kernel) ⟨Nat.le_of_ble_eq_true rfl, Nat.le_of_ble_eq_true rfl⟩) (wp_S hK hN hPc hDc) rfl rfl hl.1 rfl (lv_room (Nat.le_of_ble_eq_true rfl)) dX11_init_57 ⟨Nat.le_of_ble_eq_true rfl, Nat.le_of_ble_eq_true rfl⟩) hS (fun q _ h => hFc q h) hFc (fun u_10 t H1 locs ht hvm hw_10 hB hz1 hk1 hS => ?_)
  obtain ⟨hP1, hD1⟩ := hB
  rw [ht] at hP1
  obtain ⟨hP, hD⟩ := va_join (wr := [(h0, .inr (11, [.ref q_1, .ref q_3, .ref q_5, .ref q_7, .null, .null, .int 0, .null, .null, .null, .null, .null, .null])), (q_1, .inr (9, [.ref (u_2 0), .int 0])), ((u_2 0), .inl (cy 1, 80, .inl (fun _ => 0))), (q_3, .inr (4, [.ref (u_4 0), .ref (u_4 1), .ref (u_4 2), .int 0])), (q_5, .inr (2, [.ref (u_6 0), .ref (u_6 1), .ref (u_6 2), .ref (u_6 3), .ref (u_6 4), .int 0])), ((u_6 0), .inl (cy 0, 12, .inl (fun _ => 0))), ((u_6 1), .inl (cy 0, 12, .inl (fun _ => 0))), ((u_6 2), .inl (cy 0, 12, .inl (fun _ => 0))), ((u_6 3), .inl (cy 0, 12, .inl (fun _ => 0)))]) (w1 := []) hP hD [9] [0, 1, 2, 3, 4, 5, 6, 7, 8] rfl rfl (by decide) (by decide) hk1 hFc hP1 hD1
  generalize H1 = H at hP hS ⊢
  have hP : va_P (dC, dI) vwCl [(h0, .inr (11, [.ref q_1, .ref q_3, .ref q_5, .ref q_7, .null, .null, .int 0, .null, .null, .null, .null, .null, .null])), (q_1, .inr (9, [.ref (u_2 0), .int 0])), ((u_2 0), .inl (cy 1, 80, .inl (fun _ => 0))), (q_3, .inr (4, [.ref (u_4 0), .ref (u_4 1), .ref (u_4 2), .int 0])), (q_5, .inr (2, [.ref (u_6 0), .ref (u_6 1), .ref (u_6 2), .ref (u_6 3), .ref (u_6 4), .int 0])), ((u_6 0), .inl (cy 0, 12, .inl (fun _ => 0))), ((u_6 1), .inl (cy 0, 12, .inl (fun _ => 0))), ((u_6 2), .inl (cy 0, 12, .inl (fun _ => 0))), ((u_6 3), .inl (cy 0, 12, .inl (fun _ => 0)))] H := hP
  have hD : va_D A [(h0, .inr (11, [.ref q_1, .ref q_3, .ref q_5, .ref q_7, .null, .null, .int 0, .null, .null, .null, .null, .null, .null])), (q_1, .inr (9, [.ref (u_2 0), .int 0])), ((u_2 0), .inl (cy 1, 80, .inl (fun _ => 0))), (q_3, .inr (4, [.ref (u_4 0), .ref (u_4 1), .ref (u_4 2), .int 0])), (q_5, .inr (2, [.ref (u_6 0), .ref (u_6 1), .ref (u_6 2), .ref (u_6 3), .ref (u_6 4), .int 0])), ((u_6 0), .inl (cy 0, 12, .inl (fun _ => 0))), ((u_6 1), .inl (cy 0, 12, .inl (fun _ => 0))), ((u_6 2), .inl (cy 0, 12, .inl (fun _ => 0))), ((u_6 3), .inl (cy 0, 12, .inl (fun _ => 0)))] := hD
  refine W.widen (k := 58) (n := 531) (Nat.le_of_ble_eq_true rfl) (Nat.le_of_ble_eq_true rfl) ?_
  refine va_putF (D := (dC, dI)) (ci := 11) (v := .ref q_9) (C := RX11) (T := TX11) (N := 13) hx hb hts (fun _ h9 => List.mem_cons_of_mem _ (List.mem_append_left _ (List.mem_append_left _ (List.mem_append_left _ (List.mem_append_left _ (List.mem_append_left _ (List.mem_append_left _ (List.mem_append_left _ (List.mem_append_left _ (List.mem_append_left _ (List.mem_append_left _ (List.mem_append_right _ h9)))))))))))) tyX11 tyX11_ok nmX11 hown hK hP hD hS 0 rfl rfl 4 (by decide) (hts (.fieldLink RX11 42 "SeatsRound" "choice" "LSeatsRound$Choice;") (List.mem_of_getElem? (i := 23) rfl)) (fun _ h9 => h9) rfl hin rfl (tyX11_ok 4 (by decide)) rfl rfl (Nat.le_of_ble_eq_true rfl) dX11_init_60 (fun H locs hP hD hS => ?_)
  have hP : va_P (dC, dI) vwCl [(h0, .inr (11, [.ref q_1, .ref q_3, .ref q_5, .ref q_7, .ref q_9, .null, .int 0, .null, .null, .null, .null, .null, .null])), (q_1, .inr (9, [.ref (u_2 0), .int 0])), ((u_2 0), .inl (cy 1, 80, .inl (fun _ => 0))), (q_3, .inr (4, [.ref (u_4 0), .ref (u_4 1), .ref (u_4 2), .int 0])), (q_5, .inr (2, [.ref (u_6 0), .ref (u_6 1), .ref (u_6 2), .ref (u_6 3), .ref (u_6 4), .int 0])), ((u_6 0), .inl (cy 0, 12, .inl (fun _ => 0))), ((u_6 1), .inl (cy 0, 12, .inl (fun _ => 0))), ((u_6 2), .inl (cy 0, 12, .inl (fun _ => 0))), ((u_6 3), .inl (cy 0, 12, .inl (fun _ => 0)))] H := hP
  have hD : va_D A [(h0, .inr (11, [.ref q_1, .ref q_3, .ref q_5, .ref q_7, .ref q_9, .null, .int 0, .null, .null, .null, .null, .null, .null])), (q_1, .inr (9, [.ref (u_2 0), .int 0])), ((u_2 0), .inl (cy 1, 80, .inl (fun _ => 0))), (q_3, .inr (4, [.ref (u_4 0), .ref (u_4 1), .ref (u_4 2), .int 0])), (q_5, .inr (2, [.ref (u_6 0), .ref (u_6 1), .ref (u_6 2), .ref (u_6 3), .ref (u_6 4), .int 0])), ((u_6 0), .inl (cy 0, 12, .inl (fun _ => 0))), ((u_6 1), .inl (cy 0, 12, .inl (fun _ => 0))), ((u_6 2), .inl (cy 0, 12, .inl (fun _ => 0))), ((u_6 3), .inl (cy 0, 12, .inl (fun _ => 0)))] := hD
  refine lv_aload_n hx hb dX11_init_63 rfl (lv_at hl 0 rfl) ?_
  refine lv_bipush (v := 10) hx hb dX11_init_64 (by decide) ?_
  refine vz_newq (t0 := 8) (N' := 10) hx hb hown (hts (.classLink RX11 46 RX8) (List.mem_of_getElem? (i := 24) rfl)) hN.2.1 rfl hK hP hD hS hA (by decide) rfl (by decide) (Nat.le_of_ble_eq_true rfl) (Nat.le_of_ble_eq_true rfl) dX11_init_66 (fun q_11 H hP hD hS => ?_)
  have hP : va_P (dC, dI) vwCl [(h0, .inr (11, [.ref q_1, .ref q_3, .ref q_5, .ref q_7, .ref q_9, .null, .int 0, .null, .null, .null, .null, .null, .null])), (q_1, .inr (9, [.ref (u_2 0), .int 0])), ((u_2 0), .inl (cy 1, 80, .inl (fun _ => 0))), (q_3, .inr (4, [.ref (u_4 0), .ref (u_4 1), .ref (u_4 2), .int 0])), (q_5, .inr (2, [.ref (u_6 0), .ref (u_6 1), .ref (u_6 2), .ref (u_6 3), .ref (u_6 4), .int 0])), ((u_6 0), .inl (cy 0, 12, .inl (fun _ => 0))), ((u_6 1), .inl (cy 0, 12, .inl (fun _ => 0))), ((u_6 2), .inl (cy 0, 12, .inl (fun _ => 0))), ((u_6 3), .inl (cy 0, 12, .inl (fun _ => 0))), (q_11, .inl (cy 8, 10, .inr (.inr (.inr (.inr (fun _ => none))))))] H := hP
  have hD : va_D A [(h0, .inr (11, [.ref q_1, .ref q_3, .ref q_5, .ref q_7, .ref q_9, .null, .int 0, .null, .null, .null, .null, .null, .null])), (q_1, .inr (9, [.ref (u_2 0), .int 0])), ((u_2 0), .inl (cy 1, 80, .inl (fun _ => 0))), (q_3, .inr (4, [.ref (u_4 0), .ref (u_4 1), .ref (u_4 2), .int 0])), (q_5, .inr (2, [.ref (u_6 0), .ref (u_6 1), .ref (u_6 2), .ref (u_6 3), .ref (u_6 4), .int 0])), ((u_6 0), .inl (cy 0, 12, .inl (fun _ => 0))), ((u_6 1), .inl (cy 0, 12, .inl (fun _ => 0))), ((u_6 2), .inl (cy 0, 12, .inl (fun _ => 0))), ((u_6 3), .inl (cy 0, 12, .inl (fun _ => 0))), (q_11, .inl (cy 8, 10, .inr (.inr (.inr (.inr (fun _ => none))))))] := hD
  refine W.widen (k := 59) (n := 541) (Nat.le_of_ble_eq_true rfl) (Nat.le_of_ble_eq_true rfl) ?_
  refine va_putF (D := (dC, dI)) (ci := 11) (v := .ref q_11) (C := RX11) (T := TX11) (N := 13) hx hb hts (fun _ h9 => List.mem_cons_of_mem _ (List.mem_append_left _ (List.mem_append_left _ (List.mem_append_left _ (List.mem_append_left _ (List.mem_append_left _ (List.mem_append_left _ (List.mem_append_left _ (List.mem_append_left _ (List.mem_append_left _ (List.mem_append_left _ (List.mem_append_right _ h9)))))))))))) tyX11 tyX11_ok nmX11 hown hK hP hD hS 0 rfl rfl 5 (by decide) (hts (.fieldLink RX11 48 "SeatsRound" "tables" "[LSeatsRound$Table;") (List.mem_of_getElem? (i := 25) rfl)) (fun _ h9 => h9) rfl hin rfl (tyX11_ok 5 (by decide)) rfl rfl (Nat.le_of_ble_eq_true rfl) dX11_init_69 (fun H locs hP hD hS => ?_)
  have hP : va_P (dC, dI) vwCl [(h0, .inr (11, [.ref q_1, .ref q_3, .ref q_5, .ref q_7, .ref q_9, .ref q_11, .int 0, .null, .null, .null, .null, .null, .null])), (q_1, .inr (9, [.ref (u_2 0), .int 0])), ((u_2 0), .inl (cy 1, 80, .inl (fun _ => 0))), (q_3, .inr (4, [.ref (u_4 0), .ref (u_4 1), .ref (u_4 2), .int 0])), (q_5, .inr (2, [.ref (u_6 0), .ref (u_6 1), .ref (u_6 2), .ref (u_6 3), .ref (u_6 4), .int 0])), ((u_6 0), .inl (cy 0, 12, .inl (fun _ => 0))), ((u_6 1), .inl (cy 0, 12, .inl (fun _ => 0))), ((u_6 2), .inl (cy 0, 12, .inl (fun _ => 0))), ((u_6 3), .inl (cy 0, 12, .inl (fun _ => 0))), (q_11, .inl (cy 8, 10, .inr (.inr (.inr (.inr (fun _ => none))))))] H := hP
  have hD : va_D A [(h0, .inr (11, [.ref q_1, .ref q_3, .ref q_5, .ref q_7, .ref q_9, .ref q_11, .int 0, .null, .null, .null, .null, .null, .null])), (q_1, .inr (9, [.ref (u_2 0), .int 0])), ((u_2 0), .inl (cy 1, 80, .inl (fun _ => 0))), (q_3, .inr (4, [.ref (u_4 0), .ref (u_4 1), .ref (u_4 2), .int 0])), (q_5, .inr (2, [.ref (u_6 0), .ref (u_6 1), .ref (u_6 2), .ref (u_6 3), .ref (u_6 4), .int 0])), ((u_6 0), .inl (cy 0, 12, .inl (fun _ => 0))), ((u_6 1), .inl (cy 0, 12, .inl (fun _ => 0))), ((u_6 2), .inl (cy 0, 12, .inl (fun _ => 0))), ((u_6 3), .inl (cy 0, 12, .inl (fun _ => 0))), (q_11, .inl (cy 8, 10, .inr (.inr (.inr (.inr (fun _ => none))))))] := hD
  refine lv_aload_n hx hb dX11_init_72 rfl (lv_at hl 0 rfl) ?_
  refine lv_iconst (v := 0) hx hb dX11_init_73 (by decide) ?_
  refine va_put (D := (dC, dI)) (ci := 11) (v := .int 0) (C := RX11) (T := TX11) (N := 13) hx hb hts (fun _ h9 => List.mem_cons_of_mem _ (List.mem_append_left _ (List.mem_append_left _ (List.mem_append_left _ (List.mem_append_left _ (List.mem_append_left _ (List.mem_append_left _ (List.mem_append_left _ (List.mem_append_left _ (List.mem_append_left _ (List.mem_append_left _ (List.mem_append_right _ h9)))))))))))) tyX11 tyX11_ok nmX11 hown hK hP hD hS 0 rfl rfl 6 (by decide) (hts (.fieldLink RX11 52 "SeatsRound" "tableCount" "I") (List.mem_of_getElem? (i := 26) rfl)) (fun _ h9 => h9) rfl (tyX11_ok 6 (by decide)) rfl rfl (Nat.le_of_ble_eq_true rfl) dX11_init_74 (fun H locs hP hD hS => ?_)
  have hP : va_P (dC, dI) vwCl [(h0, .inr (11, [.ref q_1, .ref q_3, .ref q_5, .ref q_7, .ref q_9, .ref q_11, .int 0, .null, .null, .null, .null, .null, .null])), (q_1, .inr (9, [.ref (u_2 0), .int 0])), ((u_2 0), .inl (cy 1, 80, .inl (fun _ => 0))), (q_3, .inr (4, [.ref (u_4 0), .ref (u_4 1), .ref (u_4 2), .int 0])), (q_5, .inr (2, [.ref (u_6 0), .ref (u_6 1), .ref (u_6 2), .ref (u_6 3), .ref (u_6 4), .int 0])), ((u_6 0), .inl (cy 0, 12, .inl (fun _ => 0))), ((u_6 1), .inl (cy 0, 12, .inl (fun _ => 0))), ((u_6 2), .inl (cy 0, 12, .inl (fun _ => 0))), ((u_6 3), .inl (cy 0, 12, .inl (fun _ => 0))), (q_11, .inl (cy 8, 10, .inr (.inr (.inr (.inr (fun _ => none))))))] H := hP
  have hD : va_D A [(h0, .inr (11, [.ref q_1, .ref q_3, .ref q_5, .ref q_7, .ref q_9, .ref q_11, .int 0, .null, .null, .null, .null, .null, .null])), (q_1, .inr (9, [.ref (u_2 0), .int 0])), ((u_2 0), .inl (cy 1, 80, .inl (fun _ => 0))), (q_3, .inr (4, [.ref (u_4 0), .ref (u_4 1), .ref (u_4 2), .int 0])), (q_5, .inr (2, [.ref (u_6 0), .ref (u_6 1), .ref (u_6 2), .ref (u_6 3), .ref (u_6 4), .int 0])), ((u_6 0), .inl (cy 0, 12, .inl (fun _ => 0))), ((u_6 1), .inl (cy 0, 12, .inl (fun _ => 0))), ((u_6 2), .inl (cy 0, 12, .inl (fun _ => 0))), ((u_6 3), .inl (cy 0, 12, .inl (fun _ => 0))), (q_11, .inl (cy 8, 10, .inr (.inr (.inr (.inr (fun _ => none))))))] := hD
  refine lv_aload_n hx hb dX11_init_77 rfl (lv_at hl 0 rfl) ?_
  refine va_new (ci := 8) (fs := [.int 0, .int 0, .int 0, .int 0, .int 0, .int 0, .int 0, .int 0, .null, .null, .null, .null, .null]) (C := RX8) (T := TX8) (N := 13) hx hb hts (fun _ h9 => List.mem_cons_of_mem _ (List.mem_append_left _ (List.mem_append_left _ (List.mem_append_left _ (List.mem_append_left _ (List.mem_append_left _ (List.mem_append_right _ h9))))))) tyX8 tyX8_ok hown (hts (.classLink RX11 46 RX8) (List.mem_of_getElem? (i := 24) rfl)) (hts (.instantiable RX8 13) (List.mem_of_getElem? (i := 27) rfl)) (hts (.initialized RX8) (List.mem_of_getElem? (i := 28) rfl)) hK hP hD hS hA rfl (fun j hj => vz_dfX8 j hj) (Nat.le_of_ble_eq_true rfl) (Nat.le_of_ble_eq_true rfl) dX11_init_78 (fun q_12 H hP hD hS => ?_)
  have hP : va_P (dC, dI) vwCl [(h0, .inr (11, [.ref q_1, .ref q_3, .ref q_5, .ref q_7, .ref q_9, .ref q_11, .int 0, .null, .null, .null, .null, .null, .null])), (q_1, .inr (9, [.ref (u_2 0), .int 0])), ((u_2 0), .inl (cy 1, 80, .inl (fun _ => 0))), (q_3, .inr (4, [.ref (u_4 0), .ref (u_4 1), .ref (u_4 2), .int 0])), (q_5, .inr (2, [.ref (u_6 0), .ref (u_6 1), .ref (u_6 2), .ref (u_6 3), .ref (u_6 4), .int 0])), ((u_6 0), .inl (cy 0, 12, .inl (fun _ => 0))), ((u_6 1), .inl (cy 0, 12, .inl (fun _ => 0))), ((u_6 2), .inl (cy 0, 12, .inl (fun _ => 0))), ((u_6 3), .inl (cy 0, 12, .inl (fun _ => 0))), (q_11, .inl (cy 8, 10, .inr (.inr (.inr (.inr (fun _ => none)))))), (q_12, .inr (8, [.int 0, .int 0, .int 0, .int 0, .int 0, .int 0, .int 0, .int 0, .null, .null, .null, .null, .null]))] H := hP
  have hD : va_D A [(h0, .inr (11, [.ref q_1, .ref q_3, .ref q_5, .ref q_7, .ref q_9, .ref q_11, .int 0, .null, .null, .null, .null, .null, .null])), (q_1, .inr (9, [.ref (u_2 0), .int 0])), ((u_2 0), .inl (cy 1, 80, .inl (fun _ => 0))), (q_3, .inr (4, [.ref (u_4 0), .ref (u_4 1), .ref (u_4 2), .int 0])), (q_5, .inr (2, [.ref (u_6 0), .ref (u_6 1), .ref (u_6 2), .ref (u_6 3), .ref (u_6 4), .int 0])), ((u_6 0), .inl (cy 0, 12, .inl (fun _ => 0))), ((u_6 1), .inl (cy 0, 12, .inl (fun _ => 0))), ((u_6 2), .inl (cy 0, 12, .inl (fun _ => 0))), ((u_6 3), .inl (cy 0, 12, .inl (fun _ => 0))), (q_11, .inl (cy 8, 10, .inr (.inr (.inr (.inr (fun _ => none)))))), (q_12, .inr (8, [.int 0, .int 0, .int 0, .int 0, .int 0, .int 0, .int 0, .int 0, .null, .null, .null, .null, .null]))] := hD
  refine W.widen (k := 60) (n := 554) (Nat.le_of_ble_eq_true rfl) (Nat.le_of_ble_eq_true rfl) ?_
  refine lv_dup hx hb dX11_init_81 rfl ?_
  have hPc := hP.sub (ws' := [(q_12, .inr (8, [.int 0, .int 0, .int 0, .int 0, .int 0, .int 0, .int 0, .int 0, .null, .null, .null, .null, .null]))]) [10] rfl
  have hDc := hD.sub (ws' := [(q_12, .inr (8, [.int 0, .int 0, .int 0, .int 0, .int 0, .int 0, .int 0, .int 0, .null, .null, .null, .null, .null]))]) [10] (by decide) rfl
  have hFc := va_free (wc := [(q_12, .inr (8, [.int 0, .int 0, .int 0, .int 0, .int 0, .int 0, .int 0, .int 0, .null, .null, .null, .null, .null]))]) hD hS hA [10] rfl
  refine va_callv (va_runIN (As := []) (rest := [.ref q_12, .ref h0]) ⟨hx, hb, hml, hown, hts⟩ (c_Table_init l dC dI cy q_12 H.size) ⟨va_cnB 0 hts gX11_init_X8_init_n56 rfl rfl rfl (hN.1 _ (List.mem_of_getElem? (i := 4) rfl)) (hts (.initialized RX8) (List.mem_of_getElem? (i := 28) rfl)) (by decide +kernel) ⟨Nat.le_of_ble_eq_true rfl, Nat.le_of_ble_eq_true rfl⟩, rfl, (hts (.instanceMethod yX8_init) (List.mem_of_getElem? (i := 99) rfl))⟩ (wp_S hK hN hPc hDc) rfl rfl hl.1 rfl (lv_room (Nat.le_of_ble_eq_true rfl)) dX11_init_82 ⟨Nat.le_of_ble_eq_true rfl, Nat.le_of_ble_eq_true rfl⟩) hS (fun q _ h => hFc q h) hFc (fun u_13 t H1 locs ht hvm hw_13 hB hz1 hk1 hS => ?_)
  obtain ⟨hP1, hD1⟩ := hB
  rw [ht] at hP1
  obtain ⟨hP, hD⟩ := va_join (wr := [(h0, .inr (11, [.ref q_1, .ref q_3, .ref q_5, .ref q_7, .ref q_9, .ref q_11, .int 0, .null, .null, .null, .null, .null, .null])), (q_1, .inr (9, [.ref (u_2 0), .int 0])), ((u_2 0), .inl (cy 1, 80, .inl (fun _ => 0))), (q_3, .inr (4, [.ref (u_4 0), .ref (u_4 1), .ref (u_4 2), .int 0])), (q_5, .inr (2, [.ref (u_6 0), .ref (u_6 1), .ref (u_6 2), .ref (u_6 3), .ref (u_6 4), .int 0])), ((u_6 0), .inl (cy 0, 12, .inl (fun _ => 0))), ((u_6 1), .inl (cy 0, 12, .inl (fun _ => 0))), ((u_6 2), .inl (cy 0, 12, .inl (fun _ => 0))), ((u_6 3), .inl (cy 0, 12, .inl (fun _ => 0))), (q_11, .inl (cy 8, 10, .inr (.inr (.inr (.inr (fun _ => none))))))]) (w1 := []) hP hD [10] [0, 1, 2, 3, 4, 5, 6, 7, 8, 9] rfl rfl (by decide) (by decide) hk1 hFc hP1 hD1
  generalize H1 = H at hP hS ⊢
  have hP : va_P (dC, dI) vwCl [(h0, .inr (11, [.ref q_1, .ref q_3, .ref q_5, .ref q_7, .ref q_9, .ref q_11, .int 0, .null, .null, .null, .null, .null, .null])), (q_1, .inr (9, [.ref (u_2 0), .int 0])), ((u_2 0), .inl (cy 1, 80, .inl (fun _ => 0))), (q_3, .inr (4, [.ref (u_4 0), .ref (u_4 1), .ref (u_4 2), .int 0])), (q_5, .inr (2, [.ref (u_6 0), .ref (u_6 1), .ref (u_6 2), .ref (u_6 3), .ref (u_6 4), .int 0])), ((u_6 0), .inl (cy 0, 12, .inl (fun _ => 0))), ((u_6 1), .inl (cy 0, 12, .inl (fun _ => 0))), ((u_6 2), .inl (cy 0, 12, .inl (fun _ => 0))), ((u_6 3), .inl (cy 0, 12, .inl (fun _ => 0))), (q_11, .inl (cy 8, 10, .inr (.inr (.inr (.inr (fun _ => none))))))] H := hP
  have hD : va_D A [(h0, .inr (11, [.ref q_1, .ref q_3, .ref q_5, .ref q_7, .ref q_9, .ref q_11, .int 0, .null, .null, .null, .null, .null, .null])), (q_1, .inr (9, [.ref (u_2 0), .int 0])), ((u_2 0), .inl (cy 1, 80, .inl (fun _ => 0))), (q_3, .inr (4, [.ref (u_4 0), .ref (u_4 1), .ref (u_4 2), .int 0])), (q_5, .inr (2, [.ref (u_6 0), .ref (u_6 1), .ref (u_6 2), .ref (u_6 3), .ref (u_6 4), .int 0])), ((u_6 0), .inl (cy 0, 12, .inl (fun _ => 0))), ((u_6 1), .inl (cy 0, 12, .inl (fun _ => 0))), ((u_6 2), .inl (cy 0, 12, .inl (fun _ => 0))), ((u_6 3), .inl (cy 0, 12, .inl (fun _ => 0))), (q_11, .inl (cy 8, 10, .inr (.inr (.inr (.inr (fun _ => none))))))] := hD
  refine W.widen (k := 65) (n := 2658) (Nat.le_of_ble_eq_true rfl) (Nat.le_of_ble_eq_true rfl) ?_
  refine va_putF (D := (dC, dI)) (ci := 11) (v := .ref q_12) (C := RX11) (T := TX11) (N := 13) hx hb hts (fun _ h9 => List.mem_cons_of_mem _ (List.mem_append_left _ (List.mem_append_left _ (List.mem_append_left _ (List.mem_append_left _ (List.mem_append_left _ (List.mem_append_left _ (List.mem_append_left _ (List.mem_append_left _ (List.mem_append_left _ (List.mem_append_left _ (List.mem_append_right _ h9)))))))))))) tyX11 tyX11_ok nmX11 hown hK hP hD hS 0 rfl rfl 7 (by decide) (hts (.fieldLink RX11 57 "SeatsRound" "draft" "LSeatsRound$Table;") (List.mem_of_getElem? (i := 29) rfl)) (fun _ h9 => h9) rfl hin rfl (tyX11_ok 7 (by decide)) rfl rfl (Nat.le_of_ble_eq_true rfl) dX11_init_85 (fun H locs hP hD hS => ?_)
  have hP : va_P (dC, dI) vwCl [(h0, .inr (11, [.ref q_1, .ref q_3, .ref q_5, .ref q_7, .ref q_9, .ref q_11, .int 0, .ref q_12, .null, .null, .null, .null, .null])), (q_1, .inr (9, [.ref (u_2 0), .int 0])), ((u_2 0), .inl (cy 1, 80, .inl (fun _ => 0))), (q_3, .inr (4, [.ref (u_4 0), .ref (u_4 1), .ref (u_4 2), .int 0])), (q_5, .inr (2, [.ref (u_6 0), .ref (u_6 1), .ref (u_6 2), .ref (u_6 3), .ref (u_6 4), .int 0])), ((u_6 0), .inl (cy 0, 12, .inl (fun _ => 0))), ((u_6 1), .inl (cy 0, 12, .inl (fun _ => 0))), ((u_6 2), .inl (cy 0, 12, .inl (fun _ => 0))), ((u_6 3), .inl (cy 0, 12, .inl (fun _ => 0))), (q_11, .inl (cy 8, 10, .inr (.inr (.inr (.inr (fun _ => none))))))] H := hP
  have hD : va_D A [(h0, .inr (11, [.ref q_1, .ref q_3, .ref q_5, .ref q_7, .ref q_9, .ref q_11, .int 0, .ref q_12, .null, .null, .null, .null, .null])), (q_1, .inr (9, [.ref (u_2 0), .int 0])), ((u_2 0), .inl (cy 1, 80, .inl (fun _ => 0))), (q_3, .inr (4, [.ref (u_4 0), .ref (u_4 1), .ref (u_4 2), .int 0])), (q_5, .inr (2, [.ref (u_6 0), .ref (u_6 1), .ref (u_6 2), .ref (u_6 3), .ref (u_6 4), .int 0])), ((u_6 0), .inl (cy 0, 12, .inl (fun _ => 0))), ((u_6 1), .inl (cy 0, 12, .inl (fun _ => 0))), ((u_6 2), .inl (cy 0, 12, .inl (fun _ => 0))), ((u_6 3), .inl (cy 0, 12, .inl (fun _ => 0))), (q_11, .inl (cy 8, 10, .inr (.inr (.inr (.inr (fun _ => none))))))] := hD
  refine lv_aload_n hx hb dX11_init_88 rfl (lv_at hl 0 rfl) ?_
  refine va_new (ci := 6) (fs := [.null, .null, .null, .null, .null, .null, .null, .null, .int 0, .null, .null, .null]) (C := RX6) (T := TX6) (N := 12) hx hb hts (fun _ h9 => List.mem_cons_of_mem _ (List.mem_append_left _ (List.mem_append_left _ (List.mem_append_left _ (List.mem_append_left _ (List.mem_append_right _ h9)))))) tyX6 tyX6_ok hown (hts (.classLink RX11 61 RX6) (List.mem_of_getElem? (i := 30) rfl)) (hts (.instantiable RX6 12) (List.mem_of_getElem? (i := 31) rfl)) (hts (.initialized RX6) (List.mem_of_getElem? (i := 32) rfl)) hK hP hD hS hA rfl (fun j hj => vz_dfX6 j hj) (Nat.le_of_ble_eq_true rfl) (Nat.le_of_ble_eq_true rfl) dX11_init_89 (fun q_14 H hP hD hS => ?_)
  have hP : va_P (dC, dI) vwCl [(h0, .inr (11, [.ref q_1, .ref q_3, .ref q_5, .ref q_7, .ref q_9, .ref q_11, .int 0, .ref q_12, .null, .null, .null, .null, .null])), (q_1, .inr (9, [.ref (u_2 0), .int 0])), ((u_2 0), .inl (cy 1, 80, .inl (fun _ => 0))), (q_3, .inr (4, [.ref (u_4 0), .ref (u_4 1), .ref (u_4 2), .int 0])), (q_5, .inr (2, [.ref (u_6 0), .ref (u_6 1), .ref (u_6 2), .ref (u_6 3), .ref (u_6 4), .int 0])), ((u_6 0), .inl (cy 0, 12, .inl (fun _ => 0))), ((u_6 1), .inl (cy 0, 12, .inl (fun _ => 0))), ((u_6 2), .inl (cy 0, 12, .inl (fun _ => 0))), ((u_6 3), .inl (cy 0, 12, .inl (fun _ => 0))), (q_11, .inl (cy 8, 10, .inr (.inr (.inr (.inr (fun _ => none)))))), (q_14, .inr (6, [.null, .null, .null, .null, .null, .null, .null, .null, .int 0, .null, .null, .null]))] H := hP
  have hD : va_D A [(h0, .inr (11, [.ref q_1, .ref q_3, .ref q_5, .ref q_7, .ref q_9, .ref q_11, .int 0, .ref q_12, .null, .null, .null, .null, .null])), (q_1, .inr (9, [.ref (u_2 0), .int 0])), ((u_2 0), .inl (cy 1, 80, .inl (fun _ => 0))), (q_3, .inr (4, [.ref (u_4 0), .ref (u_4 1), .ref (u_4 2), .int 0])), (q_5, .inr (2, [.ref (u_6 0), .ref (u_6 1), .ref (u_6 2), .ref (u_6 3), .ref (u_6 4), .int 0])), ((u_6 0), .inl (cy 0, 12, .inl (fun _ => 0))), ((u_6 1), .inl (cy 0, 12, .inl (fun _ => 0))), ((u_6 2), .inl (cy 0, 12, .inl (fun _ => 0))), ((u_6 3), .inl (cy 0, 12, .inl (fun _ => 0))), (q_11, .inl (cy 8, 10, .inr (.inr (.inr (.inr (fun _ => none)))))), (q_14, .inr (6, [.null, .null, .null, .null, .null, .null, .null, .null, .int 0, .null, .null, .null]))] := hD
  refine W.widen (k := 66) (n := 2670) (Nat.le_of_ble_eq_true rfl) (Nat.le_of_ble_eq_true rfl) ?_
  refine lv_dup hx hb dX11_init_92 rfl ?_
  refine lv_aload_n hx hb dX11_init_93 rfl (lv_at hl 0 rfl) ?_
  refine va_get (D := (dC, dI)) (ci := 11) (v := .ref q_5) (C := RX11) (T := TX11) (N := 13) hx hb hts (fun _ h9 => List.mem_cons_of_mem _ (List.mem_append_left _ (List.mem_append_left _ (List.mem_append_left _ (List.mem_append_left _ (List.mem_append_left _ (List.mem_append_left _ (List.mem_append_left _ (List.mem_append_left _ (List.mem_append_left _ (List.mem_append_left _ (List.mem_append_right _ h9)))))))))))) hown hK hP 0 rfl rfl 2 (by decide) (hts (.fieldLink RX11 26 "SeatsRound" "keepers" "LSeatsRound$Keepers;") (List.mem_of_getElem? (i := 15) rfl)) (fun _ h9 => h9) rfl dX11_init_94 ?_
  refine lv_aload_n hx hb dX11_init_97 rfl (lv_at hl 0 rfl) ?_
  refine va_get (D := (dC, dI)) (ci := 11) (v := .ref q_3) (C := RX11) (T := TX11) (N := 13) hx hb hts (fun _ h9 => List.mem_cons_of_mem _ (List.mem_append_left _ (List.mem_append_left _ (List.mem_append_left _ (List.mem_append_left _ (List.mem_append_left _ (List.mem_append_left _ (List.mem_append_left _ (List.mem_append_left _ (List.mem_append_left _ (List.mem_append_left _ (List.mem_append_right _ h9)))))))))))) hown hK hP 0 rfl rfl 1 (by decide) (hts (.fieldLink RX11 19 "SeatsRound" "nameList" "LSeatsRound$NameList;") (List.mem_of_getElem? (i := 11) rfl)) (fun _ h9 => h9) rfl dX11_init_98 ?_
  refine lv_aload_n hx hb dX11_init_101 rfl (lv_at hl 0 rfl) ?_
  refine va_get (D := (dC, dI)) (ci := 11) (v := .ref q_9) (C := RX11) (T := TX11) (N := 13) hx hb hts (fun _ h9 => List.mem_cons_of_mem _ (List.mem_append_left _ (List.mem_append_left _ (List.mem_append_left _ (List.mem_append_left _ (List.mem_append_left _ (List.mem_append_left _ (List.mem_append_left _ (List.mem_append_left _ (List.mem_append_left _ (List.mem_append_left _ (List.mem_append_right _ h9)))))))))))) hown hK hP 0 rfl rfl 4 (by decide) (hts (.fieldLink RX11 42 "SeatsRound" "choice" "LSeatsRound$Choice;") (List.mem_of_getElem? (i := 23) rfl)) (fun _ h9 => h9) rfl dX11_init_102 ?_
  have hPc := hP.sub (ws' := [(q_14, .inr (6, [.null, .null, .null, .null, .null, .null, .null, .null, .int 0, .null, .null, .null]))]) [10] rfl
  have hDc := hD.sub (ws' := [(q_14, .inr (6, [.null, .null, .null, .null, .null, .null, .null, .null, .int 0, .null, .null, .null]))]) [10] (by decide) rfl
  have hFc := va_free (wc := [(q_14, .inr (6, [.null, .null, .null, .null, .null, .null, .null, .null, .int 0, .null, .null, .null]))]) hD hS hA [10] rfl
  refine va_callv (va_runI (As := [.ref q_5, .ref q_3, .ref q_9]) (rest := [.ref q_14, .ref h0]) ⟨hx, hb, hml, hown, hts⟩ (c_Parcels_init l dC dI cy q_14 q_5 q_3 q_9 H.size) (cwI 3 hts gX11_init_X6_init rfl rfl rfl (hts (.initialized RX6) (List.mem_of_getElem? (i := 32) rfl)) (hts (.methodLink RX11 63 yX6_init) (List.mem_of_getElem? (i := 116) rfl)) (hts (.instanceMethod yX6_init) (List.mem_of_getElem? (i := 117) rfl)) rfl (by decide +kernel) ⟨Nat.le_of_ble_eq_true rfl, Nat.le_of_ble_eq_true rfl⟩) (wp_S hK hN hPc hDc) rfl rfl hl.1 rfl (lv_room (Nat.le_of_ble_eq_true rfl)) dX11_init_105 ⟨Nat.le_of_ble_eq_true rfl, Nat.le_of_ble_eq_true rfl⟩) hS (fun q _ h => hFc q h) hFc (fun u_15 t H1 locs ht hvm hw_15 hB hz1 hk1 hS => ?_)
  obtain ⟨hP1, hD1⟩ := hB
  rw [ht] at hP1
  obtain ⟨hP, hD⟩ := va_join (wr := [(h0, .inr (11, [.ref q_1, .ref q_3, .ref q_5, .ref q_7, .ref q_9, .ref q_11, .int 0, .ref q_12, .null, .null, .null, .null, .null])), (q_1, .inr (9, [.ref (u_2 0), .int 0])), ((u_2 0), .inl (cy 1, 80, .inl (fun _ => 0))), (q_3, .inr (4, [.ref (u_4 0), .ref (u_4 1), .ref (u_4 2), .int 0])), (q_5, .inr (2, [.ref (u_6 0), .ref (u_6 1), .ref (u_6 2), .ref (u_6 3), .ref (u_6 4), .int 0])), ((u_6 0), .inl (cy 0, 12, .inl (fun _ => 0))), ((u_6 1), .inl (cy 0, 12, .inl (fun _ => 0))), ((u_6 2), .inl (cy 0, 12, .inl (fun _ => 0))), ((u_6 3), .inl (cy 0, 12, .inl (fun _ => 0))), (q_11, .inl (cy 8, 10, .inr (.inr (.inr (.inr (fun _ => none))))))]) (w1 := [(q_14, .inr (6, [.ref (u_15 0), .ref (u_15 1), .ref (u_15 2), .ref (u_15 3), .ref (u_15 4), .ref (u_15 5), .ref (u_15 6), .ref (u_15 7), .int 0, .ref q_5, .ref q_3, .ref q_9]))]) hP hD [10] [0, 1, 2, 3, 4, 5, 6, 7, 8, 9] rfl rfl (by decide) (by decide) hk1 hFc hP1 hD1
  generalize H1 = H at hP hS ⊢
  have hP : va_P (dC, dI) vwCl [(h0, .inr (11, [.ref q_1, .ref q_3, .ref q_5, .ref q_7, .ref q_9, .ref q_11, .int 0, .ref q_12, .null, .null, .null, .null, .null])), (q_1, .inr (9, [.ref (u_2 0), .int 0])), ((u_2 0), .inl (cy 1, 80, .inl (fun _ => 0))), (q_3, .inr (4, [.ref (u_4 0), .ref (u_4 1), .ref (u_4 2), .int 0])), (q_5, .inr (2, [.ref (u_6 0), .ref (u_6 1), .ref (u_6 2), .ref (u_6 3), .ref (u_6 4), .int 0])), ((u_6 0), .inl (cy 0, 12, .inl (fun _ => 0))), ((u_6 1), .inl (cy 0, 12, .inl (fun _ => 0))), ((u_6 2), .inl (cy 0, 12, .inl (fun _ => 0))), ((u_6 3), .inl (cy 0, 12, .inl (fun _ => 0))), (q_11, .inl (cy 8, 10, .inr (.inr (.inr (.inr (fun _ => none)))))), (q_14, .inr (6, [.ref (u_15 0), .ref (u_15 1), .ref (u_15 2), .ref (u_15 3), .ref (u_15 4), .ref (u_15 5), .ref (u_15 6), .ref (u_15 7), .int 0, .ref q_5, .ref q_3, .ref q_9]))] H := hP
  have hD : va_D A [(h0, .inr (11, [.ref q_1, .ref q_3, .ref q_5, .ref q_7, .ref q_9, .ref q_11, .int 0, .ref q_12, .null, .null, .null, .null, .null])), (q_1, .inr (9, [.ref (u_2 0), .int 0])), ((u_2 0), .inl (cy 1, 80, .inl (fun _ => 0))), (q_3, .inr (4, [.ref (u_4 0), .ref (u_4 1), .ref (u_4 2), .int 0])), (q_5, .inr (2, [.ref (u_6 0), .ref (u_6 1), .ref (u_6 2), .ref (u_6 3), .ref (u_6 4), .int 0])), ((u_6 0), .inl (cy 0, 12, .inl (fun _ => 0))), ((u_6 1), .inl (cy 0, 12, .inl (fun _ => 0))), ((u_6 2), .inl (cy 0, 12, .inl (fun _ => 0))), ((u_6 3), .inl (cy 0, 12, .inl (fun _ => 0))), (q_11, .inl (cy 8, 10, .inr (.inr (.inr (.inr (fun _ => none)))))), (q_14, .inr (6, [.ref (u_15 0), .ref (u_15 1), .ref (u_15 2), .ref (u_15 3), .ref (u_15 4), .ref (u_15 5), .ref (u_15 6), .ref (u_15 7), .int 0, .ref q_5, .ref q_3, .ref q_9]))] := hD
  refine W.widen (k := 134) (n := 5202) (Nat.le_of_ble_eq_true rfl) (Nat.le_of_ble_eq_true rfl) ?_
  refine va_putF (D := (dC, dI)) (ci := 11) (v := .ref q_14) (C := RX11) (T := TX11) (N := 13) hx hb hts (fun _ h9 => List.mem_cons_of_mem _ (List.mem_append_left _ (List.mem_append_left _ (List.mem_append_left _ (List.mem_append_left _ (List.mem_append_left _ (List.mem_append_left _ (List.mem_append_left _ (List.mem_append_left _ (List.mem_append_left _ (List.mem_append_left _ (List.mem_append_right _ h9)))))))))))) tyX11 tyX11_ok nmX11 hown hK hP hD hS 0 rfl rfl 8 (by decide) (hts (.fieldLink RX11 66 "SeatsRound" "parcels" "LSeatsRound$Parcels;") (List.mem_of_getElem? (i := 33) rfl)) (fun _ h9 => h9) rfl hin rfl (tyX11_ok 8 (by decide)) rfl rfl (Nat.le_of_ble_eq_true rfl) dX11_init_108 (fun H locs hP hD hS => ?_)
  have hP : va_P (dC, dI) vwCl [(h0, .inr (11, [.ref q_1, .ref q_3, .ref q_5, .ref q_7, .ref q_9, .ref q_11, .int 0, .ref q_12, .ref q_14, .null, .null, .null, .null])), (q_1, .inr (9, [.ref (u_2 0), .int 0])), ((u_2 0), .inl (cy 1, 80, .inl (fun _ => 0))), (q_3, .inr (4, [.ref (u_4 0), .ref (u_4 1), .ref (u_4 2), .int 0])), (q_5, .inr (2, [.ref (u_6 0), .ref (u_6 1), .ref (u_6 2), .ref (u_6 3), .ref (u_6 4), .int 0])), ((u_6 0), .inl (cy 0, 12, .inl (fun _ => 0))), ((u_6 1), .inl (cy 0, 12, .inl (fun _ => 0))), ((u_6 2), .inl (cy 0, 12, .inl (fun _ => 0))), ((u_6 3), .inl (cy 0, 12, .inl (fun _ => 0))), (q_11, .inl (cy 8, 10, .inr (.inr (.inr (.inr (fun _ => none)))))), (q_14, .inr (6, [.ref (u_15 0), .ref (u_15 1), .ref (u_15 2), .ref (u_15 3), .ref (u_15 4), .ref (u_15 5), .ref (u_15 6), .ref (u_15 7), .int 0, .ref q_5, .ref q_3, .ref q_9]))] H := hP
  have hD : va_D A [(h0, .inr (11, [.ref q_1, .ref q_3, .ref q_5, .ref q_7, .ref q_9, .ref q_11, .int 0, .ref q_12, .ref q_14, .null, .null, .null, .null])), (q_1, .inr (9, [.ref (u_2 0), .int 0])), ((u_2 0), .inl (cy 1, 80, .inl (fun _ => 0))), (q_3, .inr (4, [.ref (u_4 0), .ref (u_4 1), .ref (u_4 2), .int 0])), (q_5, .inr (2, [.ref (u_6 0), .ref (u_6 1), .ref (u_6 2), .ref (u_6 3), .ref (u_6 4), .int 0])), ((u_6 0), .inl (cy 0, 12, .inl (fun _ => 0))), ((u_6 1), .inl (cy 0, 12, .inl (fun _ => 0))), ((u_6 2), .inl (cy 0, 12, .inl (fun _ => 0))), ((u_6 3), .inl (cy 0, 12, .inl (fun _ => 0))), (q_11, .inl (cy 8, 10, .inr (.inr (.inr (.inr (fun _ => none)))))), (q_14, .inr (6, [.ref (u_15 0), .ref (u_15 1), .ref (u_15 2), .ref (u_15 3), .ref (u_15 4), .ref (u_15 5), .ref (u_15 6), .ref (u_15 7), .int 0, .ref q_5, .ref q_3, .ref q_9]))] := hD
  refine lv_aload_n hx hb dX11_init_111 rfl (lv_at hl 0 rfl) ?_
  refine va_new (ci := 5) (fs := [.null, .int 0, .null, .int 0, .null, .null, .null, .null, .null, .null]) (C := RX5) (T := TX5) (N := 10) hx hb hts (fun _ h9 => List.mem_cons_of_mem _ (List.mem_append_left _ (List.mem_append_left _ (List.mem_append_left _ (List.mem_append_right _ h9))))) tyX5 tyX5_ok hown (hts (.classLink RX11 70 RX5) (List.mem_of_getElem? (i := 34) rfl)) (hts (.instantiable RX5 10) (List.mem_of_getElem? (i := 35) rfl)) (hts (.initialized RX5) (List.mem_of_getElem? (i := 36) rfl)) hK hP hD hS hA rfl (fun j hj => vz_dfX5 j hj) (Nat.le_of_ble_eq_true rfl) (Nat.le_of_ble_eq_true rfl) dX11_init_112 (fun q_16 H hP hD hS => ?_)
  have hP : va_P (dC, dI) vwCl [(h0, .inr (11, [.ref q_1, .ref q_3, .ref q_5, .ref q_7, .ref q_9, .ref q_11, .int 0, .ref q_12, .ref q_14, .null, .null, .null, .null])), (q_1, .inr (9, [.ref (u_2 0), .int 0])), ((u_2 0), .inl (cy 1, 80, .inl (fun _ => 0))), (q_3, .inr (4, [.ref (u_4 0), .ref (u_4 1), .ref (u_4 2), .int 0])), (q_5, .inr (2, [.ref (u_6 0), .ref (u_6 1), .ref (u_6 2), .ref (u_6 3), .ref (u_6 4), .int 0])), ((u_6 0), .inl (cy 0, 12, .inl (fun _ => 0))), ((u_6 1), .inl (cy 0, 12, .inl (fun _ => 0))), ((u_6 2), .inl (cy 0, 12, .inl (fun _ => 0))), ((u_6 3), .inl (cy 0, 12, .inl (fun _ => 0))), (q_11, .inl (cy 8, 10, .inr (.inr (.inr (.inr (fun _ => none)))))), (q_14, .inr (6, [.ref (u_15 0), .ref (u_15 1), .ref (u_15 2), .ref (u_15 3), .ref (u_15 4), .ref (u_15 5), .ref (u_15 6), .ref (u_15 7), .int 0, .ref q_5, .ref q_3, .ref q_9])), (q_16, .inr (5, [.null, .int 0, .null, .int 0, .null, .null, .null, .null, .null, .null]))] H := hP
  have hD : va_D A [(h0, .inr (11, [.ref q_1, .ref q_3, .ref q_5, .ref q_7, .ref q_9, .ref q_11, .int 0, .ref q_12, .ref q_14, .null, .null, .null, .null])), (q_1, .inr (9, [.ref (u_2 0), .int 0])), ((u_2 0), .inl (cy 1, 80, .inl (fun _ => 0))), (q_3, .inr (4, [.ref (u_4 0), .ref (u_4 1), .ref (u_4 2), .int 0])), (q_5, .inr (2, [.ref (u_6 0), .ref (u_6 1), .ref (u_6 2), .ref (u_6 3), .ref (u_6 4), .int 0])), ((u_6 0), .inl (cy 0, 12, .inl (fun _ => 0))), ((u_6 1), .inl (cy 0, 12, .inl (fun _ => 0))), ((u_6 2), .inl (cy 0, 12, .inl (fun _ => 0))), ((u_6 3), .inl (cy 0, 12, .inl (fun _ => 0))), (q_11, .inl (cy 8, 10, .inr (.inr (.inr (.inr (fun _ => none)))))), (q_14, .inr (6, [.ref (u_15 0), .ref (u_15 1), .ref (u_15 2), .ref (u_15 3), .ref (u_15 4), .ref (u_15 5), .ref (u_15 6), .ref (u_15 7), .int 0, .ref q_5, .ref q_3, .ref q_9])), (q_16, .inr (5, [.null, .int 0, .null, .int 0, .null, .null, .null, .null, .null, .null]))] := hD
  refine W.widen (k := 135) (n := 5212) (Nat.le_of_ble_eq_true rfl) (Nat.le_of_ble_eq_true rfl) ?_
  refine lv_dup hx hb dX11_init_115 rfl ?_
  refine lv_aload_n hx hb dX11_init_116 rfl (lv_at hl 0 rfl) ?_
  refine va_get (D := (dC, dI)) (ci := 11) (v := .ref q_5) (C := RX11) (T := TX11) (N := 13) hx hb hts (fun _ h9 => List.mem_cons_of_mem _ (List.mem_append_left _ (List.mem_append_left _ (List.mem_append_left _ (List.mem_append_left _ (List.mem_append_left _ (List.mem_append_left _ (List.mem_append_left _ (List.mem_append_left _ (List.mem_append_left _ (List.mem_append_left _ (List.mem_append_right _ h9)))))))))))) hown hK hP 0 rfl rfl 2 (by decide) (hts (.fieldLink RX11 26 "SeatsRound" "keepers" "LSeatsRound$Keepers;") (List.mem_of_getElem? (i := 15) rfl)) (fun _ h9 => h9) rfl dX11_init_117 ?_
  refine lv_aload_n hx hb dX11_init_120 rfl (lv_at hl 0 rfl) ?_
  refine va_get (D := (dC, dI)) (ci := 11) (v := .ref q_3) (C := RX11) (T := TX11) (N := 13) hx hb hts (fun _ h9 => List.mem_cons_of_mem _ (List.mem_append_left _ (List.mem_append_left _ (List.mem_append_left _ (List.mem_append_left _ (List.mem_append_left _ (List.mem_append_left _ (List.mem_append_left _ (List.mem_append_left _ (List.mem_append_left _ (List.mem_append_left _ (List.mem_append_right _ h9)))))))))))) hown hK hP 0 rfl rfl 1 (by decide) (hts (.fieldLink RX11 19 "SeatsRound" "nameList" "LSeatsRound$NameList;") (List.mem_of_getElem? (i := 11) rfl)) (fun _ h9 => h9) rfl dX11_init_121 ?_
  refine lv_aload_n hx hb dX11_init_124 rfl (lv_at hl 0 rfl) ?_
  refine va_get (D := (dC, dI)) (ci := 11) (v := .ref q_9) (C := RX11) (T := TX11) (N := 13) hx hb hts (fun _ h9 => List.mem_cons_of_mem _ (List.mem_append_left _ (List.mem_append_left _ (List.mem_append_left _ (List.mem_append_left _ (List.mem_append_left _ (List.mem_append_left _ (List.mem_append_left _ (List.mem_append_left _ (List.mem_append_left _ (List.mem_append_left _ (List.mem_append_right _ h9)))))))))))) hown hK hP 0 rfl rfl 4 (by decide) (hts (.fieldLink RX11 42 "SeatsRound" "choice" "LSeatsRound$Choice;") (List.mem_of_getElem? (i := 23) rfl)) (fun _ h9 => h9) rfl dX11_init_125 ?_
  refine lv_aload_n hx hb dX11_init_128 rfl (lv_at hl 0 rfl) ?_
  refine va_get (D := (dC, dI)) (ci := 11) (v := .ref q_7) (C := RX11) (T := TX11) (N := 13) hx hb hts (fun _ h9 => List.mem_cons_of_mem _ (List.mem_append_left _ (List.mem_append_left _ (List.mem_append_left _ (List.mem_append_left _ (List.mem_append_left _ (List.mem_append_left _ (List.mem_append_left _ (List.mem_append_left _ (List.mem_append_left _ (List.mem_append_left _ (List.mem_append_right _ h9)))))))))))) hown hK hP 0 rfl rfl 3 (by decide) (hts (.fieldLink RX11 33 "SeatsRound" "law" "LSeatsRound$Law;") (List.mem_of_getElem? (i := 19) rfl)) (fun _ h9 => h9) rfl dX11_init_129 ?_
  have hPc := hP.sub (ws' := [(q_16, .inr (5, [.null, .int 0, .null, .int 0, .null, .null, .null, .null, .null, .null]))]) [11] rfl
  have hDc := hD.sub (ws' := [(q_16, .inr (5, [.null, .int 0, .null, .int 0, .null, .null, .null, .null, .null, .null]))]) [11] (by decide) rfl
  have hFc := va_free (wc := [(q_16, .inr (5, [.null, .int 0, .null, .int 0, .null, .null, .null, .null, .null, .null]))]) hD hS hA [11] rfl
  refine va_callv (va_runI (As := [.ref q_5, .ref q_3, .ref q_9, .ref q_7]) (rest := [.ref q_16, .ref h0]) ⟨hx, hb, hml, hown, hts⟩ (c_Orders_init l dC dI cy q_16 q_5 q_3 q_9 q_7 H.size) (cwI 4 hts gX11_init_X5_init rfl rfl rfl (hts (.initialized RX5) (List.mem_of_getElem? (i := 36) rfl)) (hts (.methodLink RX11 72 yX5_init) (List.mem_of_getElem? (i := 133) rfl)) (hts (.instanceMethod yX5_init) (List.mem_of_getElem? (i := 134) rfl)) rfl (by decide +kernel) ⟨Nat.le_of_ble_eq_true rfl, Nat.le_of_ble_eq_true rfl⟩) (wp_S hK hN hPc hDc) rfl rfl hl.1 rfl (lv_room (Nat.le_of_ble_eq_true rfl)) dX11_init_132 ⟨Nat.le_of_ble_eq_true rfl, Nat.le_of_ble_eq_true rfl⟩) hS (fun q _ h => hFc q h) hFc (fun u_17 t H1 locs ht hvm hw_17 hB hz1 hk1 hS => ?_)
  obtain ⟨hP1, hD1⟩ := hB
  rw [ht] at hP1
  obtain ⟨hP, hD⟩ := va_join (wr := [(h0, .inr (11, [.ref q_1, .ref q_3, .ref q_5, .ref q_7, .ref q_9, .ref q_11, .int 0, .ref q_12, .ref q_14, .null, .null, .null, .null])), (q_1, .inr (9, [.ref (u_2 0), .int 0])), ((u_2 0), .inl (cy 1, 80, .inl (fun _ => 0))), (q_3, .inr (4, [.ref (u_4 0), .ref (u_4 1), .ref (u_4 2), .int 0])), (q_5, .inr (2, [.ref (u_6 0), .ref (u_6 1), .ref (u_6 2), .ref (u_6 3), .ref (u_6 4), .int 0])), ((u_6 0), .inl (cy 0, 12, .inl (fun _ => 0))), ((u_6 1), .inl (cy 0, 12, .inl (fun _ => 0))), ((u_6 2), .inl (cy 0, 12, .inl (fun _ => 0))), ((u_6 3), .inl (cy 0, 12, .inl (fun _ => 0))), (q_11, .inl (cy 8, 10, .inr (.inr (.inr (.inr (fun _ => none)))))), (q_14, .inr (6, [.ref (u_15 0), .ref (u_15 1), .ref (u_15 2), .ref (u_15 3), .ref (u_15 4), .ref (u_15 5), .ref (u_15 6), .ref (u_15 7), .int 0, .ref q_5, .ref q_3, .ref q_9]))]) (w1 := [(q_16, .inr (5, [.ref (u_17 0), .int 0, .ref (u_17 1), .int 0, .ref (u_17 2), .ref (u_17 3), .ref q_5, .ref q_3, .ref q_9, .ref q_7]))]) hP hD [11] [0, 1, 2, 3, 4, 5, 6, 7, 8, 9, 10] rfl rfl (by decide) (by decide) hk1 hFc hP1 hD1
  generalize H1 = H at hP hS ⊢
  have hP : va_P (dC, dI) vwCl [(h0, .inr (11, [.ref q_1, .ref q_3, .ref q_5, .ref q_7, .ref q_9, .ref q_11, .int 0, .ref q_12, .ref q_14, .null, .null, .null, .null])), (q_1, .inr (9, [.ref (u_2 0), .int 0])), ((u_2 0), .inl (cy 1, 80, .inl (fun _ => 0))), (q_3, .inr (4, [.ref (u_4 0), .ref (u_4 1), .ref (u_4 2), .int 0])), (q_5, .inr (2, [.ref (u_6 0), .ref (u_6 1), .ref (u_6 2), .ref (u_6 3), .ref (u_6 4), .int 0])), ((u_6 0), .inl (cy 0, 12, .inl (fun _ => 0))), ((u_6 1), .inl (cy 0, 12, .inl (fun _ => 0))), ((u_6 2), .inl (cy 0, 12, .inl (fun _ => 0))), ((u_6 3), .inl (cy 0, 12, .inl (fun _ => 0))), (q_11, .inl (cy 8, 10, .inr (.inr (.inr (.inr (fun _ => none)))))), (q_14, .inr (6, [.ref (u_15 0), .ref (u_15 1), .ref (u_15 2), .ref (u_15 3), .ref (u_15 4), .ref (u_15 5), .ref (u_15 6), .ref (u_15 7), .int 0, .ref q_5, .ref q_3, .ref q_9])), (q_16, .inr (5, [.ref (u_17 0), .int 0, .ref (u_17 1), .int 0, .ref (u_17 2), .ref (u_17 3), .ref q_5, .ref q_3, .ref q_9, .ref q_7]))] H := hP
  have hD : va_D A [(h0, .inr (11, [.ref q_1, .ref q_3, .ref q_5, .ref q_7, .ref q_9, .ref q_11, .int 0, .ref q_12, .ref q_14, .null, .null, .null, .null])), (q_1, .inr (9, [.ref (u_2 0), .int 0])), ((u_2 0), .inl (cy 1, 80, .inl (fun _ => 0))), (q_3, .inr (4, [.ref (u_4 0), .ref (u_4 1), .ref (u_4 2), .int 0])), (q_5, .inr (2, [.ref (u_6 0), .ref (u_6 1), .ref (u_6 2), .ref (u_6 3), .ref (u_6 4), .int 0])), ((u_6 0), .inl (cy 0, 12, .inl (fun _ => 0))), ((u_6 1), .inl (cy 0, 12, .inl (fun _ => 0))), ((u_6 2), .inl (cy 0, 12, .inl (fun _ => 0))), ((u_6 3), .inl (cy 0, 12, .inl (fun _ => 0))), (q_11, .inl (cy 8, 10, .inr (.inr (.inr (.inr (fun _ => none)))))), (q_14, .inr (6, [.ref (u_15 0), .ref (u_15 1), .ref (u_15 2), .ref (u_15 3), .ref (u_15 4), .ref (u_15 5), .ref (u_15 6), .ref (u_15 7), .int 0, .ref q_5, .ref q_3, .ref q_9])), (q_16, .inr (5, [.ref (u_17 0), .int 0, .ref (u_17 1), .int 0, .ref (u_17 2), .ref (u_17 3), .ref q_5, .ref q_3, .ref q_9, .ref q_7]))] := hD
  refine W.widen (k := 171) (n := 6566) (Nat.le_of_ble_eq_true rfl) (Nat.le_of_ble_eq_true rfl) ?_
  refine va_putF (D := (dC, dI)) (ci := 11) (v := .ref q_16) (C := RX11) (T := TX11) (N := 13) hx hb hts (fun _ h9 => List.mem_cons_of_mem _ (List.mem_append_left _ (List.mem_append_left _ (List.mem_append_left _ (List.mem_append_left _ (List.mem_append_left _ (List.mem_append_left _ (List.mem_append_left _ (List.mem_append_left _ (List.mem_append_left _ (List.mem_append_left _ (List.mem_append_right _ h9)))))))))))) tyX11 tyX11_ok nmX11 hown hK hP hD hS 0 rfl rfl 9 (by decide) (hts (.fieldLink RX11 75 "SeatsRound" "orders" "LSeatsRound$Orders;") (List.mem_of_getElem? (i := 37) rfl)) (fun _ h9 => h9) rfl hin rfl (tyX11_ok 9 (by decide)) rfl rfl (Nat.le_of_ble_eq_true rfl) dX11_init_135 (fun H locs hP hD hS => ?_)
  have hP : va_P (dC, dI) vwCl [(h0, .inr (11, [.ref q_1, .ref q_3, .ref q_5, .ref q_7, .ref q_9, .ref q_11, .int 0, .ref q_12, .ref q_14, .ref q_16, .null, .null, .null])), (q_1, .inr (9, [.ref (u_2 0), .int 0])), ((u_2 0), .inl (cy 1, 80, .inl (fun _ => 0))), (q_3, .inr (4, [.ref (u_4 0), .ref (u_4 1), .ref (u_4 2), .int 0])), (q_5, .inr (2, [.ref (u_6 0), .ref (u_6 1), .ref (u_6 2), .ref (u_6 3), .ref (u_6 4), .int 0])), ((u_6 0), .inl (cy 0, 12, .inl (fun _ => 0))), ((u_6 1), .inl (cy 0, 12, .inl (fun _ => 0))), ((u_6 2), .inl (cy 0, 12, .inl (fun _ => 0))), ((u_6 3), .inl (cy 0, 12, .inl (fun _ => 0))), (q_11, .inl (cy 8, 10, .inr (.inr (.inr (.inr (fun _ => none)))))), (q_14, .inr (6, [.ref (u_15 0), .ref (u_15 1), .ref (u_15 2), .ref (u_15 3), .ref (u_15 4), .ref (u_15 5), .ref (u_15 6), .ref (u_15 7), .int 0, .ref q_5, .ref q_3, .ref q_9])), (q_16, .inr (5, [.ref (u_17 0), .int 0, .ref (u_17 1), .int 0, .ref (u_17 2), .ref (u_17 3), .ref q_5, .ref q_3, .ref q_9, .ref q_7]))] H := hP
  have hD : va_D A [(h0, .inr (11, [.ref q_1, .ref q_3, .ref q_5, .ref q_7, .ref q_9, .ref q_11, .int 0, .ref q_12, .ref q_14, .ref q_16, .null, .null, .null])), (q_1, .inr (9, [.ref (u_2 0), .int 0])), ((u_2 0), .inl (cy 1, 80, .inl (fun _ => 0))), (q_3, .inr (4, [.ref (u_4 0), .ref (u_4 1), .ref (u_4 2), .int 0])), (q_5, .inr (2, [.ref (u_6 0), .ref (u_6 1), .ref (u_6 2), .ref (u_6 3), .ref (u_6 4), .int 0])), ((u_6 0), .inl (cy 0, 12, .inl (fun _ => 0))), ((u_6 1), .inl (cy 0, 12, .inl (fun _ => 0))), ((u_6 2), .inl (cy 0, 12, .inl (fun _ => 0))), ((u_6 3), .inl (cy 0, 12, .inl (fun _ => 0))), (q_11, .inl (cy 8, 10, .inr (.inr (.inr (.inr (fun _ => none)))))), (q_14, .inr (6, [.ref (u_15 0), .ref (u_15 1), .ref (u_15 2), .ref (u_15 3), .ref (u_15 4), .ref (u_15 5), .ref (u_15 6), .ref (u_15 7), .int 0, .ref q_5, .ref q_3, .ref q_9])), (q_16, .inr (5, [.ref (u_17 0), .int 0, .ref (u_17 1), .int 0, .ref (u_17 2), .ref (u_17 3), .ref q_5, .ref q_3, .ref q_9, .ref q_7]))] := hD
  refine lv_aload_n hx hb dX11_init_138 rfl (lv_at hl 0 rfl) ?_
  refine va_new (ci := 10) (fs := [.null, .int 0, .int 0, .null, .null]) (C := RX10) (T := TX10) (N := 5) hx hb hts (fun _ h9 => List.mem_cons_of_mem _ (List.mem_append_left _ (List.mem_append_left _ (List.mem_append_right _ h9)))) tyX10 tyX10_ok hown (hts (.classLink RX11 79 RX10) (List.mem_of_getElem? (i := 38) rfl)) (hts (.instantiable RX10 5) (List.mem_of_getElem? (i := 39) rfl)) (hts (.initialized RX10) (List.mem_of_getElem? (i := 40) rfl)) hK hP hD hS hA rfl (fun j hj => vz_dfX10 j hj) (Nat.le_of_ble_eq_true rfl) (Nat.le_of_ble_eq_true rfl) dX11_init_139 (fun q_18 H hP hD hS => ?_)
  have hP : va_P (dC, dI) vwCl [(h0, .inr (11, [.ref q_1, .ref q_3, .ref q_5, .ref q_7, .ref q_9, .ref q_11, .int 0, .ref q_12, .ref q_14, .ref q_16, .null, .null, .null])), (q_1, .inr (9, [.ref (u_2 0), .int 0])), ((u_2 0), .inl (cy 1, 80, .inl (fun _ => 0))), (q_3, .inr (4, [.ref (u_4 0), .ref (u_4 1), .ref (u_4 2), .int 0])), (q_5, .inr (2, [.ref (u_6 0), .ref (u_6 1), .ref (u_6 2), .ref (u_6 3), .ref (u_6 4), .int 0])), ((u_6 0), .inl (cy 0, 12, .inl (fun _ => 0))), ((u_6 1), .inl (cy 0, 12, .inl (fun _ => 0))), ((u_6 2), .inl (cy 0, 12, .inl (fun _ => 0))), ((u_6 3), .inl (cy 0, 12, .inl (fun _ => 0))), (q_11, .inl (cy 8, 10, .inr (.inr (.inr (.inr (fun _ => none)))))), (q_14, .inr (6, [.ref (u_15 0), .ref (u_15 1), .ref (u_15 2), .ref (u_15 3), .ref (u_15 4), .ref (u_15 5), .ref (u_15 6), .ref (u_15 7), .int 0, .ref q_5, .ref q_3, .ref q_9])), (q_16, .inr (5, [.ref (u_17 0), .int 0, .ref (u_17 1), .int 0, .ref (u_17 2), .ref (u_17 3), .ref q_5, .ref q_3, .ref q_9, .ref q_7])), (q_18, .inr (10, [.null, .int 0, .int 0, .null, .null]))] H := hP
  have hD : va_D A [(h0, .inr (11, [.ref q_1, .ref q_3, .ref q_5, .ref q_7, .ref q_9, .ref q_11, .int 0, .ref q_12, .ref q_14, .ref q_16, .null, .null, .null])), (q_1, .inr (9, [.ref (u_2 0), .int 0])), ((u_2 0), .inl (cy 1, 80, .inl (fun _ => 0))), (q_3, .inr (4, [.ref (u_4 0), .ref (u_4 1), .ref (u_4 2), .int 0])), (q_5, .inr (2, [.ref (u_6 0), .ref (u_6 1), .ref (u_6 2), .ref (u_6 3), .ref (u_6 4), .int 0])), ((u_6 0), .inl (cy 0, 12, .inl (fun _ => 0))), ((u_6 1), .inl (cy 0, 12, .inl (fun _ => 0))), ((u_6 2), .inl (cy 0, 12, .inl (fun _ => 0))), ((u_6 3), .inl (cy 0, 12, .inl (fun _ => 0))), (q_11, .inl (cy 8, 10, .inr (.inr (.inr (.inr (fun _ => none)))))), (q_14, .inr (6, [.ref (u_15 0), .ref (u_15 1), .ref (u_15 2), .ref (u_15 3), .ref (u_15 4), .ref (u_15 5), .ref (u_15 6), .ref (u_15 7), .int 0, .ref q_5, .ref q_3, .ref q_9])), (q_16, .inr (5, [.ref (u_17 0), .int 0, .ref (u_17 1), .int 0, .ref (u_17 2), .ref (u_17 3), .ref q_5, .ref q_3, .ref q_9, .ref q_7])), (q_18, .inr (10, [.null, .int 0, .int 0, .null, .null]))] := hD
  refine W.widen (k := 172) (n := 6571) (Nat.le_of_ble_eq_true rfl) (Nat.le_of_ble_eq_true rfl) ?_
  refine lv_dup hx hb dX11_init_142 rfl ?_
  refine lv_aload_n hx hb dX11_init_143 rfl (lv_at hl 0 rfl) ?_
  refine va_get (D := (dC, dI)) (ci := 11) (v := .ref q_3) (C := RX11) (T := TX11) (N := 13) hx hb hts (fun _ h9 => List.mem_cons_of_mem _ (List.mem_append_left _ (List.mem_append_left _ (List.mem_append_left _ (List.mem_append_left _ (List.mem_append_left _ (List.mem_append_left _ (List.mem_append_left _ (List.mem_append_left _ (List.mem_append_left _ (List.mem_append_left _ (List.mem_append_right _ h9)))))))))))) hown hK hP 0 rfl rfl 1 (by decide) (hts (.fieldLink RX11 19 "SeatsRound" "nameList" "LSeatsRound$NameList;") (List.mem_of_getElem? (i := 11) rfl)) (fun _ h9 => h9) rfl dX11_init_144 ?_
  have hPc := hP.sub (ws' := [(q_18, .inr (10, [.null, .int 0, .int 0, .null, .null]))]) [12] rfl
  have hDc := hD.sub (ws' := [(q_18, .inr (10, [.null, .int 0, .int 0, .null, .null]))]) [12] (by decide) rfl
  have hFc := va_free (wc := [(q_18, .inr (10, [.null, .int 0, .int 0, .null, .null]))]) hD hS hA [12] rfl
  refine va_callv (va_runI (As := [.ref q_3]) (rest := [.ref q_18, .ref h0]) ⟨hx, hb, hml, hown, hts⟩ (c_Turnings_init l dC dI cy q_18 q_3 H.size) (cwI 1 hts gX11_init_X10_init rfl rfl rfl (hts (.initialized RX10) (List.mem_of_getElem? (i := 40) rfl)) (hts (.methodLink RX11 81 yX10_init) (List.mem_of_getElem? (i := 148) rfl)) (hts (.instanceMethod yX10_init) (List.mem_of_getElem? (i := 149) rfl)) rfl (by decide +kernel) ⟨Nat.le_of_ble_eq_true rfl, Nat.le_of_ble_eq_true rfl⟩) (wp_S hK hN hPc hDc) rfl rfl hl.1 rfl (lv_room (Nat.le_of_ble_eq_true rfl)) dX11_init_147 ⟨Nat.le_of_ble_eq_true rfl, Nat.le_of_ble_eq_true rfl⟩) hS (fun q _ h => hFc q h) hFc (fun u_19 t H1 locs ht hvm hw_19 hB hz1 hk1 hS => ?_)
  obtain ⟨hP1, hD1⟩ := hB
  rw [ht] at hP1
  obtain ⟨hP, hD⟩ := va_join (wr := [(h0, .inr (11, [.ref q_1, .ref q_3, .ref q_5, .ref q_7, .ref q_9, .ref q_11, .int 0, .ref q_12, .ref q_14, .ref q_16, .null, .null, .null])), (q_1, .inr (9, [.ref (u_2 0), .int 0])), ((u_2 0), .inl (cy 1, 80, .inl (fun _ => 0))), (q_3, .inr (4, [.ref (u_4 0), .ref (u_4 1), .ref (u_4 2), .int 0])), (q_5, .inr (2, [.ref (u_6 0), .ref (u_6 1), .ref (u_6 2), .ref (u_6 3), .ref (u_6 4), .int 0])), ((u_6 0), .inl (cy 0, 12, .inl (fun _ => 0))), ((u_6 1), .inl (cy 0, 12, .inl (fun _ => 0))), ((u_6 2), .inl (cy 0, 12, .inl (fun _ => 0))), ((u_6 3), .inl (cy 0, 12, .inl (fun _ => 0))), (q_11, .inl (cy 8, 10, .inr (.inr (.inr (.inr (fun _ => none)))))), (q_14, .inr (6, [.ref (u_15 0), .ref (u_15 1), .ref (u_15 2), .ref (u_15 3), .ref (u_15 4), .ref (u_15 5), .ref (u_15 6), .ref (u_15 7), .int 0, .ref q_5, .ref q_3, .ref q_9])), (q_16, .inr (5, [.ref (u_17 0), .int 0, .ref (u_17 1), .int 0, .ref (u_17 2), .ref (u_17 3), .ref q_5, .ref q_3, .ref q_9, .ref q_7]))]) (w1 := [(q_18, .inr (10, [.ref (u_19 0), .int 0, .int (-1), .ref (u_19 1), .ref q_3])), ((u_19 0), .inl (cy 0, 6, .inl (fun _ => 0)))]) hP hD [12] [0, 1, 2, 3, 4, 5, 6, 7, 8, 9, 10, 11] rfl rfl (by decide) (by decide) hk1 hFc hP1 hD1
  generalize H1 = H at hP hS ⊢
  have hP : va_P (dC, dI) vwCl [(h0, .inr (11, [.ref q_1, .ref q_3, .ref q_5, .ref q_7, .ref q_9, .ref q_11, .int 0, .ref q_12, .ref q_14, .ref q_16, .null, .null, .null])), (q_1, .inr (9, [.ref (u_2 0), .int 0])), ((u_2 0), .inl (cy 1, 80, .inl (fun _ => 0))), (q_3, .inr (4, [.ref (u_4 0), .ref (u_4 1), .ref (u_4 2), .int 0])), (q_5, .inr (2, [.ref (u_6 0), .ref (u_6 1), .ref (u_6 2), .ref (u_6 3), .ref (u_6 4), .int 0])), ((u_6 0), .inl (cy 0, 12, .inl (fun _ => 0))), ((u_6 1), .inl (cy 0, 12, .inl (fun _ => 0))), ((u_6 2), .inl (cy 0, 12, .inl (fun _ => 0))), ((u_6 3), .inl (cy 0, 12, .inl (fun _ => 0))), (q_11, .inl (cy 8, 10, .inr (.inr (.inr (.inr (fun _ => none)))))), (q_14, .inr (6, [.ref (u_15 0), .ref (u_15 1), .ref (u_15 2), .ref (u_15 3), .ref (u_15 4), .ref (u_15 5), .ref (u_15 6), .ref (u_15 7), .int 0, .ref q_5, .ref q_3, .ref q_9])), (q_16, .inr (5, [.ref (u_17 0), .int 0, .ref (u_17 1), .int 0, .ref (u_17 2), .ref (u_17 3), .ref q_5, .ref q_3, .ref q_9, .ref q_7])), (q_18, .inr (10, [.ref (u_19 0), .int 0, .int (-1), .ref (u_19 1), .ref q_3])), ((u_19 0), .inl (cy 0, 6, .inl (fun _ => 0)))] H := hP
  have hD : va_D A [(h0, .inr (11, [.ref q_1, .ref q_3, .ref q_5, .ref q_7, .ref q_9, .ref q_11, .int 0, .ref q_12, .ref q_14, .ref q_16, .null, .null, .null])), (q_1, .inr (9, [.ref (u_2 0), .int 0])), ((u_2 0), .inl (cy 1, 80, .inl (fun _ => 0))), (q_3, .inr (4, [.ref (u_4 0), .ref (u_4 1), .ref (u_4 2), .int 0])), (q_5, .inr (2, [.ref (u_6 0), .ref (u_6 1), .ref (u_6 2), .ref (u_6 3), .ref (u_6 4), .int 0])), ((u_6 0), .inl (cy 0, 12, .inl (fun _ => 0))), ((u_6 1), .inl (cy 0, 12, .inl (fun _ => 0))), ((u_6 2), .inl (cy 0, 12, .inl (fun _ => 0))), ((u_6 3), .inl (cy 0, 12, .inl (fun _ => 0))), (q_11, .inl (cy 8, 10, .inr (.inr (.inr (.inr (fun _ => none)))))), (q_14, .inr (6, [.ref (u_15 0), .ref (u_15 1), .ref (u_15 2), .ref (u_15 3), .ref (u_15 4), .ref (u_15 5), .ref (u_15 6), .ref (u_15 7), .int 0, .ref q_5, .ref q_3, .ref q_9])), (q_16, .inr (5, [.ref (u_17 0), .int 0, .ref (u_17 1), .int 0, .ref (u_17 2), .ref (u_17 3), .ref q_5, .ref q_3, .ref q_9, .ref q_7])), (q_18, .inr (10, [.ref (u_19 0), .int 0, .int (-1), .ref (u_19 1), .ref q_3])), ((u_19 0), .inl (cy 0, 6, .inl (fun _ => 0)))] := hD
  refine W.widen (k := 174) (n := 6589) (Nat.le_of_ble_eq_true rfl) (Nat.le_of_ble_eq_true rfl) ?_
  refine va_putF (D := (dC, dI)) (ci := 11) (v := .ref q_18) (C := RX11) (T := TX11) (N := 13) hx hb hts (fun _ h9 => List.mem_cons_of_mem _ (List.mem_append_left _ (List.mem_append_left _ (List.mem_append_left _ (List.mem_append_left _ (List.mem_append_left _ (List.mem_append_left _ (List.mem_append_left _ (List.mem_append_left _ (List.mem_append_left _ (List.mem_append_left _ (List.mem_append_right _ h9)))))))))))) tyX11 tyX11_ok nmX11 hown hK hP hD hS 0 rfl rfl 10 (by decide) (hts (.fieldLink RX11 84 "SeatsRound" "turnings" "LSeatsRound$Turnings;") (List.mem_of_getElem? (i := 41) rfl)) (fun _ h9 => h9) rfl hin rfl (tyX11_ok 10 (by decide)) rfl rfl (Nat.le_of_ble_eq_true rfl) dX11_init_150 (fun H locs hP hD hS => ?_)
  have hP : va_P (dC, dI) vwCl [(h0, .inr (11, [.ref q_1, .ref q_3, .ref q_5, .ref q_7, .ref q_9, .ref q_11, .int 0, .ref q_12, .ref q_14, .ref q_16, .ref q_18, .null, .null])), (q_1, .inr (9, [.ref (u_2 0), .int 0])), ((u_2 0), .inl (cy 1, 80, .inl (fun _ => 0))), (q_3, .inr (4, [.ref (u_4 0), .ref (u_4 1), .ref (u_4 2), .int 0])), (q_5, .inr (2, [.ref (u_6 0), .ref (u_6 1), .ref (u_6 2), .ref (u_6 3), .ref (u_6 4), .int 0])), ((u_6 0), .inl (cy 0, 12, .inl (fun _ => 0))), ((u_6 1), .inl (cy 0, 12, .inl (fun _ => 0))), ((u_6 2), .inl (cy 0, 12, .inl (fun _ => 0))), ((u_6 3), .inl (cy 0, 12, .inl (fun _ => 0))), (q_11, .inl (cy 8, 10, .inr (.inr (.inr (.inr (fun _ => none)))))), (q_14, .inr (6, [.ref (u_15 0), .ref (u_15 1), .ref (u_15 2), .ref (u_15 3), .ref (u_15 4), .ref (u_15 5), .ref (u_15 6), .ref (u_15 7), .int 0, .ref q_5, .ref q_3, .ref q_9])), (q_16, .inr (5, [.ref (u_17 0), .int 0, .ref (u_17 1), .int 0, .ref (u_17 2), .ref (u_17 3), .ref q_5, .ref q_3, .ref q_9, .ref q_7])), (q_18, .inr (10, [.ref (u_19 0), .int 0, .int (-1), .ref (u_19 1), .ref q_3])), ((u_19 0), .inl (cy 0, 6, .inl (fun _ => 0)))] H := hP
  have hD : va_D A [(h0, .inr (11, [.ref q_1, .ref q_3, .ref q_5, .ref q_7, .ref q_9, .ref q_11, .int 0, .ref q_12, .ref q_14, .ref q_16, .ref q_18, .null, .null])), (q_1, .inr (9, [.ref (u_2 0), .int 0])), ((u_2 0), .inl (cy 1, 80, .inl (fun _ => 0))), (q_3, .inr (4, [.ref (u_4 0), .ref (u_4 1), .ref (u_4 2), .int 0])), (q_5, .inr (2, [.ref (u_6 0), .ref (u_6 1), .ref (u_6 2), .ref (u_6 3), .ref (u_6 4), .int 0])), ((u_6 0), .inl (cy 0, 12, .inl (fun _ => 0))), ((u_6 1), .inl (cy 0, 12, .inl (fun _ => 0))), ((u_6 2), .inl (cy 0, 12, .inl (fun _ => 0))), ((u_6 3), .inl (cy 0, 12, .inl (fun _ => 0))), (q_11, .inl (cy 8, 10, .inr (.inr (.inr (.inr (fun _ => none)))))), (q_14, .inr (6, [.ref (u_15 0), .ref (u_15 1), .ref (u_15 2), .ref (u_15 3), .ref (u_15 4), .ref (u_15 5), .ref (u_15 6), .ref (u_15 7), .int 0, .ref q_5, .ref q_3, .ref q_9])), (q_16, .inr (5, [.ref (u_17 0), .int 0, .ref (u_17 1), .int 0, .ref (u_17 2), .ref (u_17 3), .ref q_5, .ref q_3, .ref q_9, .ref q_7])), (q_18, .inr (10, [.ref (u_19 0), .int 0, .int (-1), .ref (u_19 1), .ref q_3])), ((u_19 0), .inl (cy 0, 6, .inl (fun _ => 0)))] := hD
  refine lv_aload_n hx hb dX11_init_153 rfl (lv_at hl 0 rfl) ?_
  refine va_new (ci := 0) (fs := [.null, .int 0, .int 0, .int 0, .int 0]) (C := RX0) (T := TX0) (N := 5) hx hb hts (fun _ h9 => List.mem_cons_of_mem _ (List.mem_append_left _ (List.mem_append_right _ h9))) tyX0 tyX0_ok hown (hts (.classLink RX11 88 RX0) (List.mem_of_getElem? (i := 42) rfl)) (hts (.instantiable RX0 5) (List.mem_of_getElem? (i := 43) rfl)) (hts (.initialized RX0) (List.mem_of_getElem? (i := 44) rfl)) hK hP hD hS hA rfl (fun j hj => vz_dfX0 j hj) (Nat.le_of_ble_eq_true rfl) (Nat.le_of_ble_eq_true rfl) dX11_init_154 (fun q_20 H hP hD hS => ?_)
  have hP : va_P (dC, dI) vwCl [(h0, .inr (11, [.ref q_1, .ref q_3, .ref q_5, .ref q_7, .ref q_9, .ref q_11, .int 0, .ref q_12, .ref q_14, .ref q_16, .ref q_18, .null, .null])), (q_1, .inr (9, [.ref (u_2 0), .int 0])), ((u_2 0), .inl (cy 1, 80, .inl (fun _ => 0))), (q_3, .inr (4, [.ref (u_4 0), .ref (u_4 1), .ref (u_4 2), .int 0])), (q_5, .inr (2, [.ref (u_6 0), .ref (u_6 1), .ref (u_6 2), .ref (u_6 3), .ref (u_6 4), .int 0])), ((u_6 0), .inl (cy 0, 12, .inl (fun _ => 0))), ((u_6 1), .inl (cy 0, 12, .inl (fun _ => 0))), ((u_6 2), .inl (cy 0, 12, .inl (fun _ => 0))), ((u_6 3), .inl (cy 0, 12, .inl (fun _ => 0))), (q_11, .inl (cy 8, 10, .inr (.inr (.inr (.inr (fun _ => none)))))), (q_14, .inr (6, [.ref (u_15 0), .ref (u_15 1), .ref (u_15 2), .ref (u_15 3), .ref (u_15 4), .ref (u_15 5), .ref (u_15 6), .ref (u_15 7), .int 0, .ref q_5, .ref q_3, .ref q_9])), (q_16, .inr (5, [.ref (u_17 0), .int 0, .ref (u_17 1), .int 0, .ref (u_17 2), .ref (u_17 3), .ref q_5, .ref q_3, .ref q_9, .ref q_7])), (q_18, .inr (10, [.ref (u_19 0), .int 0, .int (-1), .ref (u_19 1), .ref q_3])), ((u_19 0), .inl (cy 0, 6, .inl (fun _ => 0))), (q_20, .inr (0, [.null, .int 0, .int 0, .int 0, .int 0]))] H := hP
  have hD : va_D A [(h0, .inr (11, [.ref q_1, .ref q_3, .ref q_5, .ref q_7, .ref q_9, .ref q_11, .int 0, .ref q_12, .ref q_14, .ref q_16, .ref q_18, .null, .null])), (q_1, .inr (9, [.ref (u_2 0), .int 0])), ((u_2 0), .inl (cy 1, 80, .inl (fun _ => 0))), (q_3, .inr (4, [.ref (u_4 0), .ref (u_4 1), .ref (u_4 2), .int 0])), (q_5, .inr (2, [.ref (u_6 0), .ref (u_6 1), .ref (u_6 2), .ref (u_6 3), .ref (u_6 4), .int 0])), ((u_6 0), .inl (cy 0, 12, .inl (fun _ => 0))), ((u_6 1), .inl (cy 0, 12, .inl (fun _ => 0))), ((u_6 2), .inl (cy 0, 12, .inl (fun _ => 0))), ((u_6 3), .inl (cy 0, 12, .inl (fun _ => 0))), (q_11, .inl (cy 8, 10, .inr (.inr (.inr (.inr (fun _ => none)))))), (q_14, .inr (6, [.ref (u_15 0), .ref (u_15 1), .ref (u_15 2), .ref (u_15 3), .ref (u_15 4), .ref (u_15 5), .ref (u_15 6), .ref (u_15 7), .int 0, .ref q_5, .ref q_3, .ref q_9])), (q_16, .inr (5, [.ref (u_17 0), .int 0, .ref (u_17 1), .int 0, .ref (u_17 2), .ref (u_17 3), .ref q_5, .ref q_3, .ref q_9, .ref q_7])), (q_18, .inr (10, [.ref (u_19 0), .int 0, .int (-1), .ref (u_19 1), .ref q_3])), ((u_19 0), .inl (cy 0, 6, .inl (fun _ => 0))), (q_20, .inr (0, [.null, .int 0, .int 0, .int 0, .int 0]))] := hD
  refine W.widen (k := 175) (n := 6594) (Nat.le_of_ble_eq_true rfl) (Nat.le_of_ble_eq_true rfl) ?_
  refine lv_dup hx hb dX11_init_157 rfl ?_
  have hPc := hP.sub (ws' := [(q_20, .inr (0, [.null, .int 0, .int 0, .int 0, .int 0]))]) [14] rfl
  have hDc := hD.sub (ws' := [(q_20, .inr (0, [.null, .int 0, .int 0, .int 0, .int 0]))]) [14] (by decide) rfl
  have hFc := va_free (wc := [(q_20, .inr (0, [.null, .int 0, .int 0, .int 0, .int 0]))]) hD hS hA [14] rfl
  refine va_callv (va_runIN (As := []) (rest := [.ref q_20, .ref h0]) ⟨hx, hb, hml, hown, hts⟩ (c_Acts_init l dC dI cy q_20 H.size) ⟨va_cnB 0 hts gX11_init_X0_init_n90 rfl rfl rfl (hN.1 _ (List.mem_of_getElem? (i := 5) rfl)) (hts (.initialized RX0) (List.mem_of_getElem? (i := 44) rfl)) (by decide +kernel) ⟨Nat.le_of_ble_eq_true rfl, Nat.le_of_ble_eq_true rfl⟩, rfl, (hts (.instanceMethod yX0_init) (List.mem_of_getElem? (i := 157) rfl))⟩ (wp_S hK hN hPc hDc) rfl rfl hl.1 rfl (lv_room (Nat.le_of_ble_eq_true rfl)) dX11_init_158 ⟨Nat.le_of_ble_eq_true rfl, Nat.le_of_ble_eq_true rfl⟩) hS (fun q _ h => hFc q h) hFc (fun u_21 t H1 locs ht hvm hw_21 hB hz1 hk1 hS => ?_)
  obtain ⟨hP1, hD1⟩ := hB
  rw [ht] at hP1
  obtain ⟨hP, hD⟩ := va_join (wr := [(h0, .inr (11, [.ref q_1, .ref q_3, .ref q_5, .ref q_7, .ref q_9, .ref q_11, .int 0, .ref q_12, .ref q_14, .ref q_16, .ref q_18, .null, .null])), (q_1, .inr (9, [.ref (u_2 0), .int 0])), ((u_2 0), .inl (cy 1, 80, .inl (fun _ => 0))), (q_3, .inr (4, [.ref (u_4 0), .ref (u_4 1), .ref (u_4 2), .int 0])), (q_5, .inr (2, [.ref (u_6 0), .ref (u_6 1), .ref (u_6 2), .ref (u_6 3), .ref (u_6 4), .int 0])), ((u_6 0), .inl (cy 0, 12, .inl (fun _ => 0))), ((u_6 1), .inl (cy 0, 12, .inl (fun _ => 0))), ((u_6 2), .inl (cy 0, 12, .inl (fun _ => 0))), ((u_6 3), .inl (cy 0, 12, .inl (fun _ => 0))), (q_11, .inl (cy 8, 10, .inr (.inr (.inr (.inr (fun _ => none)))))), (q_14, .inr (6, [.ref (u_15 0), .ref (u_15 1), .ref (u_15 2), .ref (u_15 3), .ref (u_15 4), .ref (u_15 5), .ref (u_15 6), .ref (u_15 7), .int 0, .ref q_5, .ref q_3, .ref q_9])), (q_16, .inr (5, [.ref (u_17 0), .int 0, .ref (u_17 1), .int 0, .ref (u_17 2), .ref (u_17 3), .ref q_5, .ref q_3, .ref q_9, .ref q_7])), (q_18, .inr (10, [.ref (u_19 0), .int 0, .int (-1), .ref (u_19 1), .ref q_3])), ((u_19 0), .inl (cy 0, 6, .inl (fun _ => 0)))]) (w1 := [(q_20, .inr (0, [.ref (u_21 0), .int 0, .int 0, .int 0, .int 0]))]) hP hD [14] [0, 1, 2, 3, 4, 5, 6, 7, 8, 9, 10, 11, 12, 13] rfl rfl (by decide) (by decide) hk1 hFc hP1 hD1
  generalize H1 = H at hP hS ⊢
  have hP : va_P (dC, dI) vwCl [(h0, .inr (11, [.ref q_1, .ref q_3, .ref q_5, .ref q_7, .ref q_9, .ref q_11, .int 0, .ref q_12, .ref q_14, .ref q_16, .ref q_18, .null, .null])), (q_1, .inr (9, [.ref (u_2 0), .int 0])), ((u_2 0), .inl (cy 1, 80, .inl (fun _ => 0))), (q_3, .inr (4, [.ref (u_4 0), .ref (u_4 1), .ref (u_4 2), .int 0])), (q_5, .inr (2, [.ref (u_6 0), .ref (u_6 1), .ref (u_6 2), .ref (u_6 3), .ref (u_6 4), .int 0])), ((u_6 0), .inl (cy 0, 12, .inl (fun _ => 0))), ((u_6 1), .inl (cy 0, 12, .inl (fun _ => 0))), ((u_6 2), .inl (cy 0, 12, .inl (fun _ => 0))), ((u_6 3), .inl (cy 0, 12, .inl (fun _ => 0))), (q_11, .inl (cy 8, 10, .inr (.inr (.inr (.inr (fun _ => none)))))), (q_14, .inr (6, [.ref (u_15 0), .ref (u_15 1), .ref (u_15 2), .ref (u_15 3), .ref (u_15 4), .ref (u_15 5), .ref (u_15 6), .ref (u_15 7), .int 0, .ref q_5, .ref q_3, .ref q_9])), (q_16, .inr (5, [.ref (u_17 0), .int 0, .ref (u_17 1), .int 0, .ref (u_17 2), .ref (u_17 3), .ref q_5, .ref q_3, .ref q_9, .ref q_7])), (q_18, .inr (10, [.ref (u_19 0), .int 0, .int (-1), .ref (u_19 1), .ref q_3])), ((u_19 0), .inl (cy 0, 6, .inl (fun _ => 0))), (q_20, .inr (0, [.ref (u_21 0), .int 0, .int 0, .int 0, .int 0]))] H := hP
  have hD : va_D A [(h0, .inr (11, [.ref q_1, .ref q_3, .ref q_5, .ref q_7, .ref q_9, .ref q_11, .int 0, .ref q_12, .ref q_14, .ref q_16, .ref q_18, .null, .null])), (q_1, .inr (9, [.ref (u_2 0), .int 0])), ((u_2 0), .inl (cy 1, 80, .inl (fun _ => 0))), (q_3, .inr (4, [.ref (u_4 0), .ref (u_4 1), .ref (u_4 2), .int 0])), (q_5, .inr (2, [.ref (u_6 0), .ref (u_6 1), .ref (u_6 2), .ref (u_6 3), .ref (u_6 4), .int 0])), ((u_6 0), .inl (cy 0, 12, .inl (fun _ => 0))), ((u_6 1), .inl (cy 0, 12, .inl (fun _ => 0))), ((u_6 2), .inl (cy 0, 12, .inl (fun _ => 0))), ((u_6 3), .inl (cy 0, 12, .inl (fun _ => 0))), (q_11, .inl (cy 8, 10, .inr (.inr (.inr (.inr (fun _ => none)))))), (q_14, .inr (6, [.ref (u_15 0), .ref (u_15 1), .ref (u_15 2), .ref (u_15 3), .ref (u_15 4), .ref (u_15 5), .ref (u_15 6), .ref (u_15 7), .int 0, .ref q_5, .ref q_3, .ref q_9])), (q_16, .inr (5, [.ref (u_17 0), .int 0, .ref (u_17 1), .int 0, .ref (u_17 2), .ref (u_17 3), .ref q_5, .ref q_3, .ref q_9, .ref q_7])), (q_18, .inr (10, [.ref (u_19 0), .int 0, .int (-1), .ref (u_19 1), .ref q_3])), ((u_19 0), .inl (cy 0, 6, .inl (fun _ => 0))), (q_20, .inr (0, [.ref (u_21 0), .int 0, .int 0, .int 0, .int 0]))] := hD
  refine W.widen (k := 176) (n := 6618) (Nat.le_of_ble_eq_true rfl) (Nat.le_of_ble_eq_true rfl) ?_
  refine va_putF (D := (dC, dI)) (ci := 11) (v := .ref q_20) (C := RX11) (T := TX11) (N := 13) hx hb hts (fun _ h9 => List.mem_cons_of_mem _ (List.mem_append_left _ (List.mem_append_left _ (List.mem_append_left _ (List.mem_append_left _ (List.mem_append_left _ (List.mem_append_left _ (List.mem_append_left _ (List.mem_append_left _ (List.mem_append_left _ (List.mem_append_left _ (List.mem_append_right _ h9)))))))))))) tyX11 tyX11_ok nmX11 hown hK hP hD hS 0 rfl rfl 11 (by decide) (hts (.fieldLink RX11 91 "SeatsRound" "acts" "LSeatsRound$Acts;") (List.mem_of_getElem? (i := 45) rfl)) (fun _ h9 => h9) rfl hin rfl (tyX11_ok 11 (by decide)) rfl rfl (Nat.le_of_ble_eq_true rfl) dX11_init_161 (fun H locs hP hD hS => ?_)
  have hP : va_P (dC, dI) vwCl [(h0, .inr (11, [.ref q_1, .ref q_3, .ref q_5, .ref q_7, .ref q_9, .ref q_11, .int 0, .ref q_12, .ref q_14, .ref q_16, .ref q_18, .ref q_20, .null])), (q_1, .inr (9, [.ref (u_2 0), .int 0])), ((u_2 0), .inl (cy 1, 80, .inl (fun _ => 0))), (q_3, .inr (4, [.ref (u_4 0), .ref (u_4 1), .ref (u_4 2), .int 0])), (q_5, .inr (2, [.ref (u_6 0), .ref (u_6 1), .ref (u_6 2), .ref (u_6 3), .ref (u_6 4), .int 0])), ((u_6 0), .inl (cy 0, 12, .inl (fun _ => 0))), ((u_6 1), .inl (cy 0, 12, .inl (fun _ => 0))), ((u_6 2), .inl (cy 0, 12, .inl (fun _ => 0))), ((u_6 3), .inl (cy 0, 12, .inl (fun _ => 0))), (q_11, .inl (cy 8, 10, .inr (.inr (.inr (.inr (fun _ => none)))))), (q_14, .inr (6, [.ref (u_15 0), .ref (u_15 1), .ref (u_15 2), .ref (u_15 3), .ref (u_15 4), .ref (u_15 5), .ref (u_15 6), .ref (u_15 7), .int 0, .ref q_5, .ref q_3, .ref q_9])), (q_16, .inr (5, [.ref (u_17 0), .int 0, .ref (u_17 1), .int 0, .ref (u_17 2), .ref (u_17 3), .ref q_5, .ref q_3, .ref q_9, .ref q_7])), (q_18, .inr (10, [.ref (u_19 0), .int 0, .int (-1), .ref (u_19 1), .ref q_3])), ((u_19 0), .inl (cy 0, 6, .inl (fun _ => 0))), (q_20, .inr (0, [.ref (u_21 0), .int 0, .int 0, .int 0, .int 0]))] H := hP
  have hD : va_D A [(h0, .inr (11, [.ref q_1, .ref q_3, .ref q_5, .ref q_7, .ref q_9, .ref q_11, .int 0, .ref q_12, .ref q_14, .ref q_16, .ref q_18, .ref q_20, .null])), (q_1, .inr (9, [.ref (u_2 0), .int 0])), ((u_2 0), .inl (cy 1, 80, .inl (fun _ => 0))), (q_3, .inr (4, [.ref (u_4 0), .ref (u_4 1), .ref (u_4 2), .int 0])), (q_5, .inr (2, [.ref (u_6 0), .ref (u_6 1), .ref (u_6 2), .ref (u_6 3), .ref (u_6 4), .int 0])), ((u_6 0), .inl (cy 0, 12, .inl (fun _ => 0))), ((u_6 1), .inl (cy 0, 12, .inl (fun _ => 0))), ((u_6 2), .inl (cy 0, 12, .inl (fun _ => 0))), ((u_6 3), .inl (cy 0, 12, .inl (fun _ => 0))), (q_11, .inl (cy 8, 10, .inr (.inr (.inr (.inr (fun _ => none)))))), (q_14, .inr (6, [.ref (u_15 0), .ref (u_15 1), .ref (u_15 2), .ref (u_15 3), .ref (u_15 4), .ref (u_15 5), .ref (u_15 6), .ref (u_15 7), .int 0, .ref q_5, .ref q_3, .ref q_9])), (q_16, .inr (5, [.ref (u_17 0), .int 0, .ref (u_17 1), .int 0, .ref (u_17 2), .ref (u_17 3), .ref q_5, .ref q_3, .ref q_9, .ref q_7])), (q_18, .inr (10, [.ref (u_19 0), .int 0, .int (-1), .ref (u_19 1), .ref q_3])), ((u_19 0), .inl (cy 0, 6, .inl (fun _ => 0))), (q_20, .inr (0, [.ref (u_21 0), .int 0, .int 0, .int 0, .int 0]))] := hD
  refine lv_aload_n hx hb dX11_init_164 rfl (lv_at hl 0 rfl) ?_
  refine va_new (ci := 7) (fs := [.null, .null, .null, .null]) (C := RX7) (T := TX7) (N := 4) hx hb hts (fun _ h9 => List.mem_cons_of_mem _ (List.mem_append_right _ h9)) tyX7 tyX7_ok hown (hts (.classLink RX11 95 RX7) (List.mem_of_getElem? (i := 46) rfl)) (hts (.instantiable RX7 4) (List.mem_of_getElem? (i := 47) rfl)) (hts (.initialized RX7) (List.mem_of_getElem? (i := 48) rfl)) hK hP hD hS hA rfl (fun j hj => vz_dfX7 j hj) (Nat.le_of_ble_eq_true rfl) (Nat.le_of_ble_eq_true rfl) dX11_init_165 (fun q_22 H hP hD hS => ?_)
  have hP : va_P (dC, dI) vwCl [(h0, .inr (11, [.ref q_1, .ref q_3, .ref q_5, .ref q_7, .ref q_9, .ref q_11, .int 0, .ref q_12, .ref q_14, .ref q_16, .ref q_18, .ref q_20, .null])), (q_1, .inr (9, [.ref (u_2 0), .int 0])), ((u_2 0), .inl (cy 1, 80, .inl (fun _ => 0))), (q_3, .inr (4, [.ref (u_4 0), .ref (u_4 1), .ref (u_4 2), .int 0])), (q_5, .inr (2, [.ref (u_6 0), .ref (u_6 1), .ref (u_6 2), .ref (u_6 3), .ref (u_6 4), .int 0])), ((u_6 0), .inl (cy 0, 12, .inl (fun _ => 0))), ((u_6 1), .inl (cy 0, 12, .inl (fun _ => 0))), ((u_6 2), .inl (cy 0, 12, .inl (fun _ => 0))), ((u_6 3), .inl (cy 0, 12, .inl (fun _ => 0))), (q_11, .inl (cy 8, 10, .inr (.inr (.inr (.inr (fun _ => none)))))), (q_14, .inr (6, [.ref (u_15 0), .ref (u_15 1), .ref (u_15 2), .ref (u_15 3), .ref (u_15 4), .ref (u_15 5), .ref (u_15 6), .ref (u_15 7), .int 0, .ref q_5, .ref q_3, .ref q_9])), (q_16, .inr (5, [.ref (u_17 0), .int 0, .ref (u_17 1), .int 0, .ref (u_17 2), .ref (u_17 3), .ref q_5, .ref q_3, .ref q_9, .ref q_7])), (q_18, .inr (10, [.ref (u_19 0), .int 0, .int (-1), .ref (u_19 1), .ref q_3])), ((u_19 0), .inl (cy 0, 6, .inl (fun _ => 0))), (q_20, .inr (0, [.ref (u_21 0), .int 0, .int 0, .int 0, .int 0])), (q_22, .inr (7, [.null, .null, .null, .null]))] H := hP
  have hD : va_D A [(h0, .inr (11, [.ref q_1, .ref q_3, .ref q_5, .ref q_7, .ref q_9, .ref q_11, .int 0, .ref q_12, .ref q_14, .ref q_16, .ref q_18, .ref q_20, .null])), (q_1, .inr (9, [.ref (u_2 0), .int 0])), ((u_2 0), .inl (cy 1, 80, .inl (fun _ => 0))), (q_3, .inr (4, [.ref (u_4 0), .ref (u_4 1), .ref (u_4 2), .int 0])), (q_5, .inr (2, [.ref (u_6 0), .ref (u_6 1), .ref (u_6 2), .ref (u_6 3), .ref (u_6 4), .int 0])), ((u_6 0), .inl (cy 0, 12, .inl (fun _ => 0))), ((u_6 1), .inl (cy 0, 12, .inl (fun _ => 0))), ((u_6 2), .inl (cy 0, 12, .inl (fun _ => 0))), ((u_6 3), .inl (cy 0, 12, .inl (fun _ => 0))), (q_11, .inl (cy 8, 10, .inr (.inr (.inr (.inr (fun _ => none)))))), (q_14, .inr (6, [.ref (u_15 0), .ref (u_15 1), .ref (u_15 2), .ref (u_15 3), .ref (u_15 4), .ref (u_15 5), .ref (u_15 6), .ref (u_15 7), .int 0, .ref q_5, .ref q_3, .ref q_9])), (q_16, .inr (5, [.ref (u_17 0), .int 0, .ref (u_17 1), .int 0, .ref (u_17 2), .ref (u_17 3), .ref q_5, .ref q_3, .ref q_9, .ref q_7])), (q_18, .inr (10, [.ref (u_19 0), .int 0, .int (-1), .ref (u_19 1), .ref q_3])), ((u_19 0), .inl (cy 0, 6, .inl (fun _ => 0))), (q_20, .inr (0, [.ref (u_21 0), .int 0, .int 0, .int 0, .int 0])), (q_22, .inr (7, [.null, .null, .null, .null]))] := hD
  refine W.widen (k := 177) (n := 6622) (Nat.le_of_ble_eq_true rfl) (Nat.le_of_ble_eq_true rfl) ?_
  refine lv_dup hx hb dX11_init_168 rfl ?_
  have hPc := hP.sub (ws' := [(q_22, .inr (7, [.null, .null, .null, .null]))]) [15] rfl
  have hDc := hD.sub (ws' := [(q_22, .inr (7, [.null, .null, .null, .null]))]) [15] (by decide) rfl
  have hFc := va_free (wc := [(q_22, .inr (7, [.null, .null, .null, .null]))]) hD hS hA [15] rfl
  refine va_callv (va_runI (As := []) (rest := [.ref q_22, .ref h0]) ⟨hx, hb, hml, hown, hts⟩ (c_Rows_init l dC dI cy q_22 H.size) (cwI 0 hts gX11_init_X7_init rfl rfl rfl (hts (.initialized RX7) (List.mem_of_getElem? (i := 48) rfl)) (hts (.methodLink RX11 97 yX7_init) (List.mem_of_getElem? (i := 165) rfl)) (hts (.instanceMethod yX7_init) (List.mem_of_getElem? (i := 166) rfl)) rfl (by decide +kernel) ⟨Nat.le_of_ble_eq_true rfl, Nat.le_of_ble_eq_true rfl⟩) (wp_S hK hN hPc hDc) rfl rfl hl.1 rfl (lv_room (Nat.le_of_ble_eq_true rfl)) dX11_init_169 ⟨Nat.le_of_ble_eq_true rfl, Nat.le_of_ble_eq_true rfl⟩) hS (fun q _ h => hFc q h) hFc (fun u_23 t H1 locs ht hvm hw_23 hB hz1 hk1 hS => ?_)
  obtain ⟨hP1, hD1⟩ := hB
  rw [ht] at hP1
  obtain ⟨hP, hD⟩ := va_join (wr := [(h0, .inr (11, [.ref q_1, .ref q_3, .ref q_5, .ref q_7, .ref q_9, .ref q_11, .int 0, .ref q_12, .ref q_14, .ref q_16, .ref q_18, .ref q_20, .null])), (q_1, .inr (9, [.ref (u_2 0), .int 0])), ((u_2 0), .inl (cy 1, 80, .inl (fun _ => 0))), (q_3, .inr (4, [.ref (u_4 0), .ref (u_4 1), .ref (u_4 2), .int 0])), (q_5, .inr (2, [.ref (u_6 0), .ref (u_6 1), .ref (u_6 2), .ref (u_6 3), .ref (u_6 4), .int 0])), ((u_6 0), .inl (cy 0, 12, .inl (fun _ => 0))), ((u_6 1), .inl (cy 0, 12, .inl (fun _ => 0))), ((u_6 2), .inl (cy 0, 12, .inl (fun _ => 0))), ((u_6 3), .inl (cy 0, 12, .inl (fun _ => 0))), (q_11, .inl (cy 8, 10, .inr (.inr (.inr (.inr (fun _ => none)))))), (q_14, .inr (6, [.ref (u_15 0), .ref (u_15 1), .ref (u_15 2), .ref (u_15 3), .ref (u_15 4), .ref (u_15 5), .ref (u_15 6), .ref (u_15 7), .int 0, .ref q_5, .ref q_3, .ref q_9])), (q_16, .inr (5, [.ref (u_17 0), .int 0, .ref (u_17 1), .int 0, .ref (u_17 2), .ref (u_17 3), .ref q_5, .ref q_3, .ref q_9, .ref q_7])), (q_18, .inr (10, [.ref (u_19 0), .int 0, .int (-1), .ref (u_19 1), .ref q_3])), ((u_19 0), .inl (cy 0, 6, .inl (fun _ => 0))), (q_20, .inr (0, [.ref (u_21 0), .int 0, .int 0, .int 0, .int 0]))]) (w1 := [(q_22, .inr (7, [.ref (u_23.1 0), .ref (u_23.1 1), .ref (u_23.1 2), .ref (u_23.1 3)])), ((u_23.1 2), .inl (cy 0, 6, .inl (fun _ => 0))), ((u_23.1 3), .inl (cy 7, 6, .inr (.inr (.inr (.inr (fun i => if i < 6 then some (u_23.2 i) else none)))))), ((u_23.2 0), .inl (cy 4, 60, .inr (.inl (fun _ => 0)))), ((u_23.2 1), .inl (cy 4, 60, .inr (.inl (fun _ => 0)))), ((u_23.2 2), .inl (cy 4, 60, .inr (.inl (fun _ => 0)))), ((u_23.2 3), .inl (cy 4, 60, .inr (.inl (fun _ => 0)))), ((u_23.2 4), .inl (cy 4, 60, .inr (.inl (fun _ => 0)))), ((u_23.2 5), .inl (cy 4, 60, .inr (.inl (fun _ => 0)))), ((u_23.1 0), .inl (cy 0, 6, .inl (fun _ => (-1)))), ((u_23.1 1), .inl (cy 0, 6, .inl (fun _ => (-1))))]) hP hD [15] [0, 1, 2, 3, 4, 5, 6, 7, 8, 9, 10, 11, 12, 13, 14] rfl rfl (by decide) (by decide) hk1 hFc hP1 hD1
  generalize H1 = H at hP hS ⊢
  have hP : va_P (dC, dI) vwCl [(h0, .inr (11, [.ref q_1, .ref q_3, .ref q_5, .ref q_7, .ref q_9, .ref q_11, .int 0, .ref q_12, .ref q_14, .ref q_16, .ref q_18, .ref q_20, .null])), (q_1, .inr (9, [.ref (u_2 0), .int 0])), ((u_2 0), .inl (cy 1, 80, .inl (fun _ => 0))), (q_3, .inr (4, [.ref (u_4 0), .ref (u_4 1), .ref (u_4 2), .int 0])), (q_5, .inr (2, [.ref (u_6 0), .ref (u_6 1), .ref (u_6 2), .ref (u_6 3), .ref (u_6 4), .int 0])), ((u_6 0), .inl (cy 0, 12, .inl (fun _ => 0))), ((u_6 1), .inl (cy 0, 12, .inl (fun _ => 0))), ((u_6 2), .inl (cy 0, 12, .inl (fun _ => 0))), ((u_6 3), .inl (cy 0, 12, .inl (fun _ => 0))), (q_11, .inl (cy 8, 10, .inr (.inr (.inr (.inr (fun _ => none)))))), (q_14, .inr (6, [.ref (u_15 0), .ref (u_15 1), .ref (u_15 2), .ref (u_15 3), .ref (u_15 4), .ref (u_15 5), .ref (u_15 6), .ref (u_15 7), .int 0, .ref q_5, .ref q_3, .ref q_9])), (q_16, .inr (5, [.ref (u_17 0), .int 0, .ref (u_17 1), .int 0, .ref (u_17 2), .ref (u_17 3), .ref q_5, .ref q_3, .ref q_9, .ref q_7])), (q_18, .inr (10, [.ref (u_19 0), .int 0, .int (-1), .ref (u_19 1), .ref q_3])), ((u_19 0), .inl (cy 0, 6, .inl (fun _ => 0))), (q_20, .inr (0, [.ref (u_21 0), .int 0, .int 0, .int 0, .int 0])), (q_22, .inr (7, [.ref (u_23.1 0), .ref (u_23.1 1), .ref (u_23.1 2), .ref (u_23.1 3)])), ((u_23.1 2), .inl (cy 0, 6, .inl (fun _ => 0))), ((u_23.1 3), .inl (cy 7, 6, .inr (.inr (.inr (.inr (fun i => if i < 6 then some (u_23.2 i) else none)))))), ((u_23.2 0), .inl (cy 4, 60, .inr (.inl (fun _ => 0)))), ((u_23.2 1), .inl (cy 4, 60, .inr (.inl (fun _ => 0)))), ((u_23.2 2), .inl (cy 4, 60, .inr (.inl (fun _ => 0)))), ((u_23.2 3), .inl (cy 4, 60, .inr (.inl (fun _ => 0)))), ((u_23.2 4), .inl (cy 4, 60, .inr (.inl (fun _ => 0)))), ((u_23.2 5), .inl (cy 4, 60, .inr (.inl (fun _ => 0)))), ((u_23.1 0), .inl (cy 0, 6, .inl (fun _ => (-1)))), ((u_23.1 1), .inl (cy 0, 6, .inl (fun _ => (-1))))] H := hP
  have hD : va_D A [(h0, .inr (11, [.ref q_1, .ref q_3, .ref q_5, .ref q_7, .ref q_9, .ref q_11, .int 0, .ref q_12, .ref q_14, .ref q_16, .ref q_18, .ref q_20, .null])), (q_1, .inr (9, [.ref (u_2 0), .int 0])), ((u_2 0), .inl (cy 1, 80, .inl (fun _ => 0))), (q_3, .inr (4, [.ref (u_4 0), .ref (u_4 1), .ref (u_4 2), .int 0])), (q_5, .inr (2, [.ref (u_6 0), .ref (u_6 1), .ref (u_6 2), .ref (u_6 3), .ref (u_6 4), .int 0])), ((u_6 0), .inl (cy 0, 12, .inl (fun _ => 0))), ((u_6 1), .inl (cy 0, 12, .inl (fun _ => 0))), ((u_6 2), .inl (cy 0, 12, .inl (fun _ => 0))), ((u_6 3), .inl (cy 0, 12, .inl (fun _ => 0))), (q_11, .inl (cy 8, 10, .inr (.inr (.inr (.inr (fun _ => none)))))), (q_14, .inr (6, [.ref (u_15 0), .ref (u_15 1), .ref (u_15 2), .ref (u_15 3), .ref (u_15 4), .ref (u_15 5), .ref (u_15 6), .ref (u_15 7), .int 0, .ref q_5, .ref q_3, .ref q_9])), (q_16, .inr (5, [.ref (u_17 0), .int 0, .ref (u_17 1), .int 0, .ref (u_17 2), .ref (u_17 3), .ref q_5, .ref q_3, .ref q_9, .ref q_7])), (q_18, .inr (10, [.ref (u_19 0), .int 0, .int (-1), .ref (u_19 1), .ref q_3])), ((u_19 0), .inl (cy 0, 6, .inl (fun _ => 0))), (q_20, .inr (0, [.ref (u_21 0), .int 0, .int 0, .int 0, .int 0])), (q_22, .inr (7, [.ref (u_23.1 0), .ref (u_23.1 1), .ref (u_23.1 2), .ref (u_23.1 3)])), ((u_23.1 2), .inl (cy 0, 6, .inl (fun _ => 0))), ((u_23.1 3), .inl (cy 7, 6, .inr (.inr (.inr (.inr (fun i => if i < 6 then some (u_23.2 i) else none)))))), ((u_23.2 0), .inl (cy 4, 60, .inr (.inl (fun _ => 0)))), ((u_23.2 1), .inl (cy 4, 60, .inr (.inl (fun _ => 0)))), ((u_23.2 2), .inl (cy 4, 60, .inr (.inl (fun _ => 0)))), ((u_23.2 3), .inl (cy 4, 60, .inr (.inl (fun _ => 0)))), ((u_23.2 4), .inl (cy 4, 60, .inr (.inl (fun _ => 0)))), ((u_23.2 5), .inl (cy 4, 60, .inr (.inl (fun _ => 0)))), ((u_23.1 0), .inl (cy 0, 6, .inl (fun _ => (-1)))), ((u_23.1 1), .inl (cy 0, 6, .inl (fun _ => (-1))))] := hD
  refine W.widen (k := 187) (n := 7006) (Nat.le_of_ble_eq_true rfl) (Nat.le_of_ble_eq_true rfl) ?_
  refine va_putF (D := (dC, dI)) (ci := 11) (v := .ref q_22) (C := RX11) (T := TX11) (N := 13) hx hb hts (fun _ h9 => List.mem_cons_of_mem _ (List.mem_append_left _ (List.mem_append_left _ (List.mem_append_left _ (List.mem_append_left _ (List.mem_append_left _ (List.mem_append_left _ (List.mem_append_left _ (List.mem_append_left _ (List.mem_append_left _ (List.mem_append_left _ (List.mem_append_right _ h9)))))))))))) tyX11 tyX11_ok nmX11 hown hK hP hD hS 0 rfl rfl 12 (by decide) (hts (.fieldLink RX11 98 "SeatsRound" "rows" "LSeatsRound$Rows;") (List.mem_of_getElem? (i := 49) rfl)) (fun _ h9 => h9) rfl hin rfl (tyX11_ok 12 (by decide)) rfl rfl (Nat.le_of_ble_eq_true rfl) dX11_init_172 (fun H locs hP hD hS => ?_)
  have hP : va_P (dC, dI) vwCl [(h0, .inr (11, [.ref q_1, .ref q_3, .ref q_5, .ref q_7, .ref q_9, .ref q_11, .int 0, .ref q_12, .ref q_14, .ref q_16, .ref q_18, .ref q_20, .ref q_22])), (q_1, .inr (9, [.ref (u_2 0), .int 0])), ((u_2 0), .inl (cy 1, 80, .inl (fun _ => 0))), (q_3, .inr (4, [.ref (u_4 0), .ref (u_4 1), .ref (u_4 2), .int 0])), (q_5, .inr (2, [.ref (u_6 0), .ref (u_6 1), .ref (u_6 2), .ref (u_6 3), .ref (u_6 4), .int 0])), ((u_6 0), .inl (cy 0, 12, .inl (fun _ => 0))), ((u_6 1), .inl (cy 0, 12, .inl (fun _ => 0))), ((u_6 2), .inl (cy 0, 12, .inl (fun _ => 0))), ((u_6 3), .inl (cy 0, 12, .inl (fun _ => 0))), (q_11, .inl (cy 8, 10, .inr (.inr (.inr (.inr (fun _ => none)))))), (q_14, .inr (6, [.ref (u_15 0), .ref (u_15 1), .ref (u_15 2), .ref (u_15 3), .ref (u_15 4), .ref (u_15 5), .ref (u_15 6), .ref (u_15 7), .int 0, .ref q_5, .ref q_3, .ref q_9])), (q_16, .inr (5, [.ref (u_17 0), .int 0, .ref (u_17 1), .int 0, .ref (u_17 2), .ref (u_17 3), .ref q_5, .ref q_3, .ref q_9, .ref q_7])), (q_18, .inr (10, [.ref (u_19 0), .int 0, .int (-1), .ref (u_19 1), .ref q_3])), ((u_19 0), .inl (cy 0, 6, .inl (fun _ => 0))), (q_20, .inr (0, [.ref (u_21 0), .int 0, .int 0, .int 0, .int 0])), (q_22, .inr (7, [.ref (u_23.1 0), .ref (u_23.1 1), .ref (u_23.1 2), .ref (u_23.1 3)])), ((u_23.1 2), .inl (cy 0, 6, .inl (fun _ => 0))), ((u_23.1 3), .inl (cy 7, 6, .inr (.inr (.inr (.inr (fun i => if i < 6 then some (u_23.2 i) else none)))))), ((u_23.2 0), .inl (cy 4, 60, .inr (.inl (fun _ => 0)))), ((u_23.2 1), .inl (cy 4, 60, .inr (.inl (fun _ => 0)))), ((u_23.2 2), .inl (cy 4, 60, .inr (.inl (fun _ => 0)))), ((u_23.2 3), .inl (cy 4, 60, .inr (.inl (fun _ => 0)))), ((u_23.2 4), .inl (cy 4, 60, .inr (.inl (fun _ => 0)))), ((u_23.2 5), .inl (cy 4, 60, .inr (.inl (fun _ => 0)))), ((u_23.1 0), .inl (cy 0, 6, .inl (fun _ => (-1)))), ((u_23.1 1), .inl (cy 0, 6, .inl (fun _ => (-1))))] H := hP
  have hD : va_D A [(h0, .inr (11, [.ref q_1, .ref q_3, .ref q_5, .ref q_7, .ref q_9, .ref q_11, .int 0, .ref q_12, .ref q_14, .ref q_16, .ref q_18, .ref q_20, .ref q_22])), (q_1, .inr (9, [.ref (u_2 0), .int 0])), ((u_2 0), .inl (cy 1, 80, .inl (fun _ => 0))), (q_3, .inr (4, [.ref (u_4 0), .ref (u_4 1), .ref (u_4 2), .int 0])), (q_5, .inr (2, [.ref (u_6 0), .ref (u_6 1), .ref (u_6 2), .ref (u_6 3), .ref (u_6 4), .int 0])), ((u_6 0), .inl (cy 0, 12, .inl (fun _ => 0))), ((u_6 1), .inl (cy 0, 12, .inl (fun _ => 0))), ((u_6 2), .inl (cy 0, 12, .inl (fun _ => 0))), ((u_6 3), .inl (cy 0, 12, .inl (fun _ => 0))), (q_11, .inl (cy 8, 10, .inr (.inr (.inr (.inr (fun _ => none)))))), (q_14, .inr (6, [.ref (u_15 0), .ref (u_15 1), .ref (u_15 2), .ref (u_15 3), .ref (u_15 4), .ref (u_15 5), .ref (u_15 6), .ref (u_15 7), .int 0, .ref q_5, .ref q_3, .ref q_9])), (q_16, .inr (5, [.ref (u_17 0), .int 0, .ref (u_17 1), .int 0, .ref (u_17 2), .ref (u_17 3), .ref q_5, .ref q_3, .ref q_9, .ref q_7])), (q_18, .inr (10, [.ref (u_19 0), .int 0, .int (-1), .ref (u_19 1), .ref q_3])), ((u_19 0), .inl (cy 0, 6, .inl (fun _ => 0))), (q_20, .inr (0, [.ref (u_21 0), .int 0, .int 0, .int 0, .int 0])), (q_22, .inr (7, [.ref (u_23.1 0), .ref (u_23.1 1), .ref (u_23.1 2), .ref (u_23.1 3)])), ((u_23.1 2), .inl (cy 0, 6, .inl (fun _ => 0))), ((u_23.1 3), .inl (cy 7, 6, .inr (.inr (.inr (.inr (fun i => if i < 6 then some (u_23.2 i) else none)))))), ((u_23.2 0), .inl (cy 4, 60, .inr (.inl (fun _ => 0)))), ((u_23.2 1), .inl (cy 4, 60, .inr (.inl (fun _ => 0)))), ((u_23.2 2), .inl (cy 4, 60, .inr (.inl (fun _ => 0)))), ((u_23.2 3), .inl (cy 4, 60, .inr (.inl (fun _ => 0)))), ((u_23.2 4), .inl (cy 4, 60, .inr (.inl (fun _ => 0)))), ((u_23.2 5), .inl (cy 4, 60, .inr (.inl (fun _ => 0)))), ((u_23.1 0), .inl (cy 0, 6, .inl (fun _ => (-1)))), ((u_23.1 1), .inl (cy 0, 6, .inl (fun _ => (-1))))] := hD
  have hP9 := hP.sub (ws' := [(h0, .inr (11, [.ref q_1, .ref q_3, .ref q_5, .ref q_7, .ref q_9, .ref q_11, .int 0, .ref q_12, .ref q_14, .ref q_16, .ref q_18, .ref q_20, .ref q_22])), (q_1, .inr (9, [.ref (u_2 0), .int 0])), ((u_2 0), .inl (cy 1, 80, .inl (fun _ => 0))), (q_3, .inr (4, [.ref (u_4 0), .ref (u_4 1), .ref (u_4 2), .int 0])), (q_5, .inr (2, [.ref (u_6 0), .ref (u_6 1), .ref (u_6 2), .ref (u_6 3), .ref (u_6 4), .int 0])), ((u_6 0), .inl (cy 0, 12, .inl (fun _ => 0))), ((u_6 1), .inl (cy 0, 12, .inl (fun _ => 0))), ((u_6 2), .inl (cy 0, 12, .inl (fun _ => 0))), ((u_6 3), .inl (cy 0, 12, .inl (fun _ => 0))), (q_11, .inl (cy 8, 10, .inr (.inr (.inr (.inr (fun _ => none)))))), (q_14, .inr (6, [.ref (u_15 0), .ref (u_15 1), .ref (u_15 2), .ref (u_15 3), .ref (u_15 4), .ref (u_15 5), .ref (u_15 6), .ref (u_15 7), .int 0, .ref q_5, .ref q_3, .ref q_9])), (q_16, .inr (5, [.ref (u_17 0), .int 0, .ref (u_17 1), .int 0, .ref (u_17 2), .ref (u_17 3), .ref q_5, .ref q_3, .ref q_9, .ref q_7])), (q_18, .inr (10, [.ref (u_19 0), .int 0, .int (-1), .ref (u_19 1), .ref q_3])), ((u_19 0), .inl (cy 0, 6, .inl (fun _ => 0))), (q_20, .inr (0, [.ref (u_21 0), .int 0, .int 0, .int 0, .int 0])), (q_22, .inr (7, [.ref (u_23.1 0), .ref (u_23.1 1), .ref (u_23.1 2), .ref (u_23.1 3)])), ((u_23.1 2), .inl (cy 0, 6, .inl (fun _ => 0))), ((u_23.1 3), .inl (cy 7, 6, .inr (.inr (.inr (.inr (fun i => if i < 6 then some (u_23.2 i) else none)))))), ((u_23.2 0), .inl (cy 4, 60, .inr (.inl (fun _ => 0)))), ((u_23.2 1), .inl (cy 4, 60, .inr (.inl (fun _ => 0)))), ((u_23.2 2), .inl (cy 4, 60, .inr (.inl (fun _ => 0)))), ((u_23.2 3), .inl (cy 4, 60, .inr (.inl (fun _ => 0)))), ((u_23.2 4), .inl (cy 4, 60, .inr (.inl (fun _ => 0)))), ((u_23.2 5), .inl (cy 4, 60, .inr (.inl (fun _ => 0)))), ((u_23.1 0), .inl (cy 0, 6, .inl (fun _ => (-1)))), ((u_23.1 1), .inl (cy 0, 6, .inl (fun _ => (-1))))]) [0, 1, 2, 3, 4, 5, 6, 7, 8, 9, 10, 11, 12, 13, 14, 15, 16, 17, 18, 19, 20, 21, 22, 23, 24, 25] rfl
  have hD9 := hD.sub (ws' := [(h0, .inr (11, [.ref q_1, .ref q_3, .ref q_5, .ref q_7, .ref q_9, .ref q_11, .int 0, .ref q_12, .ref q_14, .ref q_16, .ref q_18, .ref q_20, .ref q_22])), (q_1, .inr (9, [.ref (u_2 0), .int 0])), ((u_2 0), .inl (cy 1, 80, .inl (fun _ => 0))), (q_3, .inr (4, [.ref (u_4 0), .ref (u_4 1), .ref (u_4 2), .int 0])), (q_5, .inr (2, [.ref (u_6 0), .ref (u_6 1), .ref (u_6 2), .ref (u_6 3), .ref (u_6 4), .int 0])), ((u_6 0), .inl (cy 0, 12, .inl (fun _ => 0))), ((u_6 1), .inl (cy 0, 12, .inl (fun _ => 0))), ((u_6 2), .inl (cy 0, 12, .inl (fun _ => 0))), ((u_6 3), .inl (cy 0, 12, .inl (fun _ => 0))), (q_11, .inl (cy 8, 10, .inr (.inr (.inr (.inr (fun _ => none)))))), (q_14, .inr (6, [.ref (u_15 0), .ref (u_15 1), .ref (u_15 2), .ref (u_15 3), .ref (u_15 4), .ref (u_15 5), .ref (u_15 6), .ref (u_15 7), .int 0, .ref q_5, .ref q_3, .ref q_9])), (q_16, .inr (5, [.ref (u_17 0), .int 0, .ref (u_17 1), .int 0, .ref (u_17 2), .ref (u_17 3), .ref q_5, .ref q_3, .ref q_9, .ref q_7])), (q_18, .inr (10, [.ref (u_19 0), .int 0, .int (-1), .ref (u_19 1), .ref q_3])), ((u_19 0), .inl (cy 0, 6, .inl (fun _ => 0))), (q_20, .inr (0, [.ref (u_21 0), .int 0, .int 0, .int 0, .int 0])), (q_22, .inr (7, [.ref (u_23.1 0), .ref (u_23.1 1), .ref (u_23.1 2), .ref (u_23.1 3)])), ((u_23.1 2), .inl (cy 0, 6, .inl (fun _ => 0))), ((u_23.1 3), .inl (cy 7, 6, .inr (.inr (.inr (.inr (fun i => if i < 6 then some (u_23.2 i) else none)))))), ((u_23.2 0), .inl (cy 4, 60, .inr (.inl (fun _ => 0)))), ((u_23.2 1), .inl (cy 4, 60, .inr (.inl (fun _ => 0)))), ((u_23.2 2), .inl (cy 4, 60, .inr (.inl (fun _ => 0)))), ((u_23.2 3), .inl (cy 4, 60, .inr (.inl (fun _ => 0)))), ((u_23.2 4), .inl (cy 4, 60, .inr (.inl (fun _ => 0)))), ((u_23.2 5), .inl (cy 4, 60, .inr (.inl (fun _ => 0)))), ((u_23.1 0), .inl (cy 0, 6, .inl (fun _ => (-1)))), ((u_23.1 1), .inl (cy 0, 6, .inl (fun _ => (-1))))]) [0, 1, 2, 3, 4, 5, 6, 7, 8, 9, 10, 11, 12, 13, 14, 15, 16, 17, 18, 19, 20, 21, 22, 23, 24, 25] (by decide) rfl
  exact W.vret hx hb hr (fun t ht hW => ⟨⟨(fun k => [q_1, q_3, q_5, q_7, q_9, q_11, q_12, q_14, q_16, q_18, q_20, q_22, (u_2 0), (u_4 0), (u_4 1), (u_4 2), (u_6 0), (u_6 1), (u_6 2), (u_6 3), (u_6 4), (u_15 0), (u_15 1), (u_15 2), (u_15 3), (u_15 4), (u_15 5), (u_15 6), (u_15 7), (u_17 0), (u_17 1), (u_17 2), (u_17 3), (u_19 0), (u_19 1), (u_21 0), (u_23.1 0), (u_23.1 1), (u_23.1 2), (u_23.1 3)].getD k 0, u_23.2), rfl, trivial, ⟨by rw [ht]; exact hP9, hD9⟩⟩, hS.F ht⟩) hS.2.2 dX11_init_175
end
