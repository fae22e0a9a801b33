section
-- ===== PART A: goes FIRST, ahead of the names: the tables' words, and 'selects' of the private methods out of them =====
/-- a private method of a class that the tables say can be made, by its rows of tables_1 -/
def lw_okq (q : MethodName × Nat) : Prop := (q.1.cls ≠ "java/lang/invoke/MethodHandle" ∧ q.1.cls ≠ "java/lang/invoke/VarHandle") ∧ Cond.instantiable q.1.cls q.2 ∈ tables_1 ∧ Cond.privateMethod q.1 ∈ tables_1 ∧ Cond.instanceMethod q.1 ∈ tables_1
theorem lw_p0 : lw_okq (⟨"LastPlace$Street", "readDoors", "(LLastPlace$Text;)V"⟩, 4) := ⟨⟨by decide +kernel, by decide +kernel⟩, List.mem_of_getElem? (i := 63) (by decide +kernel), List.mem_of_getElem? (i := 382) (by decide +kernel), List.mem_of_getElem? (i := 383) (by decide +kernel)⟩
theorem lw_p1 : lw_okq (⟨"LastPlace$Street", "readClause", "(LLastPlace$Text;I)V"⟩, 4) := ⟨⟨by decide +kernel, by decide +kernel⟩, List.mem_of_getElem? (i := 63) (by decide +kernel), List.mem_of_getElem? (i := 415) (by decide +kernel), List.mem_of_getElem? (i := 416) (by decide +kernel)⟩
theorem lw_p2 : lw_okq (⟨"LastPlace", "closeText", "()I"⟩, 12) := ⟨⟨by decide +kernel, by decide +kernel⟩, List.mem_of_getElem? (i := 18) (by decide +kernel), List.mem_of_getElem? (i := 419) (by decide +kernel), List.mem_of_getElem? (i := 420) (by decide +kernel)⟩
theorem lw_p3 : lw_okq (⟨"LastPlace$Street", "arrivalOf", "(I)I"⟩, 4) := ⟨⟨by decide +kernel, by decide +kernel⟩, List.mem_of_getElem? (i := 63) (by decide +kernel), List.mem_of_getElem? (i := 428) (by decide +kernel), List.mem_of_getElem? (i := 429) (by decide +kernel)⟩
theorem lw_p4 : lw_okq (⟨"LastPlace$BestWay", "reckonEnd", "(I)I"⟩, 5) := ⟨⟨by decide +kernel, by decide +kernel⟩, List.mem_of_getElem? (i := 183) (by decide +kernel), List.mem_of_getElem? (i := 439) (by decide +kernel), List.mem_of_getElem? (i := 440) (by decide +kernel)⟩
theorem lw_p5 : lw_okq (⟨"LastPlace$BestWay", "reckonDoor", "(II)V"⟩, 5) := ⟨⟨by decide +kernel, by decide +kernel⟩, List.mem_of_getElem? (i := 183) (by decide +kernel), List.mem_of_getElem? (i := 455) (by decide +kernel), List.mem_of_getElem? (i := 456) (by decide +kernel)⟩
theorem lw_p6 : lw_okq (⟨"LastPlace$BestWay", "reckonNext", "(III)I"⟩, 5) := ⟨⟨by decide +kernel, by decide +kernel⟩, List.mem_of_getElem? (i := 183) (by decide +kernel), List.mem_of_getElem? (i := 464) (by decide +kernel), List.mem_of_getElem? (i := 465) (by decide +kernel)⟩
theorem lw_p7 : lw_okq (⟨"LastPlace$BestWay", "reckonStart", "(I)I"⟩, 5) := ⟨⟨by decide +kernel, by decide +kernel⟩, List.mem_of_getElem? (i := 183) (by decide +kernel), List.mem_of_getElem? (i := 499) (by decide +kernel), List.mem_of_getElem? (i := 500) (by decide +kernel)⟩
theorem lw_p8 : lw_okq (⟨"LastPlace", "isStreet", "(I)Z"⟩, 12) := ⟨⟨by decide +kernel, by decide +kernel⟩, List.mem_of_getElem? (i := 18) (by decide +kernel), List.mem_of_getElem? (i := 512) (by decide +kernel), List.mem_of_getElem? (i := 513) (by decide +kernel)⟩
theorem lw_p9 : lw_okq (⟨"LastPlace", "isDoor", "(II)Z"⟩, 12) := ⟨⟨by decide +kernel, by decide +kernel⟩, List.mem_of_getElem? (i := 18) (by decide +kernel), List.mem_of_getElem? (i := 523) (by decide +kernel), List.mem_of_getElem? (i := 524) (by decide +kernel)⟩
theorem lw_p10 : lw_okq (⟨"LastPlace", "isRound", "(II)Z"⟩, 12) := ⟨⟨by decide +kernel, by decide +kernel⟩, List.mem_of_getElem? (i := 18) (by decide +kernel), List.mem_of_getElem? (i := 536) (by decide +kernel), List.mem_of_getElem? (i := 537) (by decide +kernel)⟩
theorem lw_p11 : lw_okq (⟨"LastPlace", "refuseSight", "(IIII)I"⟩, 12) := ⟨⟨by decide +kernel, by decide +kernel⟩, List.mem_of_getElem? (i := 18) (by decide +kernel), List.mem_of_getElem? (i := 545) (by decide +kernel), List.mem_of_getElem? (i := 546) (by decide +kernel)⟩
theorem lw_p12 : lw_okq (⟨"LastPlace$BestWay", "isTakenByAll", "(II)Z"⟩, 5) := ⟨⟨by decide +kernel, by decide +kernel⟩, List.mem_of_getElem? (i := 183) (by decide +kernel), List.mem_of_getElem? (i := 581) (by decide +kernel), List.mem_of_getElem? (i := 582) (by decide +kernel)⟩
theorem lw_p13 : lw_okq (⟨"LastPlace$BestWay", "isTakenByAny", "(II)Z"⟩, 5) := ⟨⟨by decide +kernel, by decide +kernel⟩, List.mem_of_getElem? (i := 183) (by decide +kernel), List.mem_of_getElem? (i := 586) (by decide +kernel), List.mem_of_getElem? (i := 587) (by decide +kernel)⟩
theorem lw_p14 : lw_okq (⟨"LastPlace$Rule", "readChange", "(LLastPlace$Text;)V"⟩, 5) := ⟨⟨by decide +kernel, by decide +kernel⟩, List.mem_of_getElem? (i := 206) (by decide +kernel), List.mem_of_getElem? (i := 608) (by decide +kernel), List.mem_of_getElem? (i := 609) (by decide +kernel)⟩
theorem lw_p15 : lw_okq (⟨"LastPlace", "isRule", "(I)Z"⟩, 12) := ⟨⟨by decide +kernel, by decide +kernel⟩, List.mem_of_getElem? (i := 18) (by decide +kernel), List.mem_of_getElem? (i := 620) (by decide +kernel), List.mem_of_getElem? (i := 621) (by decide +kernel)⟩
def lw_privs_1 : List (MethodName × Nat) := [(⟨"LastPlace$Street", "readDoors", "(LLastPlace$Text;)V"⟩, 4), (⟨"LastPlace$Street", "readClause", "(LLastPlace$Text;I)V"⟩, 4), (⟨"LastPlace", "closeText", "()I"⟩, 12), (⟨"LastPlace$Street", "arrivalOf", "(I)I"⟩, 4), (⟨"LastPlace$BestWay", "reckonEnd", "(I)I"⟩, 5), (⟨"LastPlace$BestWay", "reckonDoor", "(II)V"⟩, 5), (⟨"LastPlace$BestWay", "reckonNext", "(III)I"⟩, 5), (⟨"LastPlace$BestWay", "reckonStart", "(I)I"⟩, 5), (⟨"LastPlace", "isStreet", "(I)Z"⟩, 12), (⟨"LastPlace", "isDoor", "(II)Z"⟩, 12), (⟨"LastPlace", "isRound", "(II)Z"⟩, 12), (⟨"LastPlace", "refuseSight", "(IIII)I"⟩, 12), (⟨"LastPlace$BestWay", "isTakenByAll", "(II)Z"⟩, 5), (⟨"LastPlace$BestWay", "isTakenByAny", "(II)Z"⟩, 5), (⟨"LastPlace$Rule", "readChange", "(LLastPlace$Text;)V"⟩, 5), (⟨"LastPlace", "isRule", "(I)Z"⟩, 12)]
theorem lw_r1 : ∀ q ∈ lw_privs_1, lw_okq q := List.forall_mem_cons.mpr ⟨lw_p0, List.forall_mem_cons.mpr ⟨lw_p1, List.forall_mem_cons.mpr ⟨lw_p2, List.forall_mem_cons.mpr ⟨lw_p3, List.forall_mem_cons.mpr ⟨lw_p4, List.forall_mem_cons.mpr ⟨lw_p5, List.forall_mem_cons.mpr ⟨lw_p6, List.forall_mem_cons.mpr ⟨lw_p7, List.forall_mem_cons.mpr ⟨lw_p8, List.forall_mem_cons.mpr ⟨lw_p9, List.forall_mem_cons.mpr ⟨lw_p10, List.forall_mem_cons.mpr ⟨lw_p11, List.forall_mem_cons.mpr ⟨lw_p12, List.forall_mem_cons.mpr ⟨lw_p13, List.forall_mem_cons.mpr ⟨lw_p14, List.forall_mem_cons.mpr ⟨lw_p15, fun _ h => absurd h List.not_mem_nil⟩⟩⟩⟩⟩⟩⟩⟩⟩⟩⟩⟩⟩⟩⟩⟩
theorem lw_p16 : lw_okq (⟨"LastPlace$Reckoner", "meanOfRound", "(LLastPlace$Street;LLastPlace$Rule;III)I"⟩, 5) := ⟨⟨by decide +kernel, by decide +kernel⟩, List.mem_of_getElem? (i := 127) (by decide +kernel), List.mem_of_getElem? (i := 642) (by decide +kernel), List.mem_of_getElem? (i := 643) (by decide +kernel)⟩
theorem lw_p17 : lw_okq (⟨"LastPlace", "isCar", "(I)Z"⟩, 12) := ⟨⟨by decide +kernel, by decide +kernel⟩, List.mem_of_getElem? (i := 18) (by decide +kernel), List.mem_of_getElem? (i := 732) (by decide +kernel), List.mem_of_getElem? (i := 733) (by decide +kernel)⟩
theorem lw_p18 : lw_okq (⟨"LastPlace", "isSet", "(II)Z"⟩, 12) := ⟨⟨by decide +kernel, by decide +kernel⟩, List.mem_of_getElem? (i := 18) (by decide +kernel), List.mem_of_getElem? (i := 740) (by decide +kernel), List.mem_of_getElem? (i := 741) (by decide +kernel)⟩
theorem lw_p19 : lw_okq (⟨"LastPlace$Parking", "leftBehind", "(II)I"⟩, 8) := ⟨⟨by decide +kernel, by decide +kernel⟩, List.mem_of_getElem? (i := 152) (by decide +kernel), List.mem_of_getElem? (i := 757) (by decide +kernel), List.mem_of_getElem? (i := 758) (by decide +kernel)⟩
theorem lw_p20 : lw_okq (⟨"LastPlace$Parking", "placeFrom", "(II)I"⟩, 8) := ⟨⟨by decide +kernel, by decide +kernel⟩, List.mem_of_getElem? (i := 152) (by decide +kernel), List.mem_of_getElem? (i := 761) (by decide +kernel), List.mem_of_getElem? (i := 762) (by decide +kernel)⟩
theorem lw_p21 : lw_okq (⟨"LastPlace", "refuseSet", "(II)I"⟩, 12) := ⟨⟨by decide +kernel, by decide +kernel⟩, List.mem_of_getElem? (i := 18) (by decide +kernel), List.mem_of_getElem? (i := 773) (by decide +kernel), List.mem_of_getElem? (i := 774) (by decide +kernel)⟩
theorem lw_p22 : lw_okq (⟨"LastPlace$Parking", "bestBar", "(II)I"⟩, 8) := ⟨⟨by decide +kernel, by decide +kernel⟩, List.mem_of_getElem? (i := 152) (by decide +kernel), List.mem_of_getElem? (i := 781) (by decide +kernel), List.mem_of_getElem? (i := 782) (by decide +kernel)⟩
theorem lw_p23 : lw_okq (⟨"LastPlace$Parking", "paidAt", "(II)I"⟩, 8) := ⟨⟨by decide +kernel, by decide +kernel⟩, List.mem_of_getElem? (i := 152) (by decide +kernel), List.mem_of_getElem? (i := 785) (by decide +kernel), List.mem_of_getElem? (i := 786) (by decide +kernel)⟩
theorem lw_p24 : lw_okq (⟨"LastPlace$Parking", "changeInTurn", "()Z"⟩, 8) := ⟨⟨by decide +kernel, by decide +kernel⟩, List.mem_of_getElem? (i := 152) (by decide +kernel), List.mem_of_getElem? (i := 798) (by decide +kernel), List.mem_of_getElem? (i := 799) (by decide +kernel)⟩
theorem lw_p25 : lw_okq (⟨"LastPlace$Parking", "giveDoor", "(II)V"⟩, 8) := ⟨⟨by decide +kernel, by decide +kernel⟩, List.mem_of_getElem? (i := 152) (by decide +kernel), List.mem_of_getElem? (i := 828) (by decide +kernel), List.mem_of_getElem? (i := 829) (by decide +kernel)⟩
theorem lw_p26 : lw_okq (⟨"LastPlaceModel", "bare", "()V"⟩, 44) := ⟨⟨by decide +kernel, by decide +kernel⟩, List.mem_of_getElem? (i := 886) (by decide +kernel), List.mem_of_getElem? (i := 892) (by decide +kernel), List.mem_of_getElem? (i := 893) (by decide +kernel)⟩
theorem lw_p27 : lw_okq (⟨"LastPlaceModel", "here", "()I"⟩, 44) := ⟨⟨by decide +kernel, by decide +kernel⟩, List.mem_of_getElem? (i := 886) (by decide +kernel), List.mem_of_getElem? (i := 1043) (by decide +kernel), List.mem_of_getElem? (i := 1044) (by decide +kernel)⟩
theorem lw_p28 : lw_okq (⟨"LastPlaceModel", "takeClause", "()I"⟩, 44) := ⟨⟨by decide +kernel, by decide +kernel⟩, List.mem_of_getElem? (i := 886) (by decide +kernel), List.mem_of_getElem? (i := 1047) (by decide +kernel), List.mem_of_getElem? (i := 1048) (by decide +kernel)⟩
theorem lw_p29 : lw_okq (⟨"LastPlaceModel", "readWord", "()V"⟩, 44) := ⟨⟨by decide +kernel, by decide +kernel⟩, List.mem_of_getElem? (i := 886) (by decide +kernel), List.mem_of_getElem? (i := 1051) (by decide +kernel), List.mem_of_getElem? (i := 1052) (by decide +kernel)⟩
theorem lw_p30 : lw_okq (⟨"LastPlaceModel", "clauseOf", "()I"⟩, 44) := ⟨⟨by decide +kernel, by decide +kernel⟩, List.mem_of_getElem? (i := 886) (by decide +kernel), List.mem_of_getElem? (i := 1061) (by decide +kernel), List.mem_of_getElem? (i := 1062) (by decide +kernel)⟩
theorem lw_p31 : lw_okq (⟨"LastPlaceModel", "fails", "(II)I"⟩, 44) := ⟨⟨by decide +kernel, by decide +kernel⟩, List.mem_of_getElem? (i := 886) (by decide +kernel), List.mem_of_getElem? (i := 1074) (by decide +kernel), List.mem_of_getElem? (i := 1075) (by decide +kernel)⟩
def lw_privs_2 : List (MethodName × Nat) := [(⟨"LastPlace$Reckoner", "meanOfRound", "(LLastPlace$Street;LLastPlace$Rule;III)I"⟩, 5), (⟨"LastPlace", "isCar", "(I)Z"⟩, 12), (⟨"LastPlace", "isSet", "(II)Z"⟩, 12), (⟨"LastPlace$Parking", "leftBehind", "(II)I"⟩, 8), (⟨"LastPlace$Parking", "placeFrom", "(II)I"⟩, 8), (⟨"LastPlace", "refuseSet", "(II)I"⟩, 12), (⟨"LastPlace$Parking", "bestBar", "(II)I"⟩, 8), (⟨"LastPlace$Parking", "paidAt", "(II)I"⟩, 8), (⟨"LastPlace$Parking", "changeInTurn", "()Z"⟩, 8), (⟨"LastPlace$Parking", "giveDoor", "(II)V"⟩, 8), (⟨"LastPlaceModel", "bare", "()V"⟩, 44), (⟨"LastPlaceModel", "here", "()I"⟩, 44), (⟨"LastPlaceModel", "takeClause", "()I"⟩, 44), (⟨"LastPlaceModel", "readWord", "()V"⟩, 44), (⟨"LastPlaceModel", "clauseOf", "()I"⟩, 44), (⟨"LastPlaceModel", "fails", "(II)I"⟩, 44)]
theorem lw_r2 : ∀ q ∈ lw_privs_2, lw_okq q := List.forall_mem_cons.mpr ⟨lw_p16, List.forall_mem_cons.mpr ⟨lw_p17, List.forall_mem_cons.mpr ⟨lw_p18, List.forall_mem_cons.mpr ⟨lw_p19, List.forall_mem_cons.mpr ⟨lw_p20, List.forall_mem_cons.mpr ⟨lw_p21, List.forall_mem_cons.mpr ⟨lw_p22, List.forall_mem_cons.mpr ⟨lw_p23, List.forall_mem_cons.mpr ⟨lw_p24, List.forall_mem_cons.mpr ⟨lw_p25, List.forall_mem_cons.mpr ⟨lw_p26, List.forall_mem_cons.mpr ⟨lw_p27, List.forall_mem_cons.mpr ⟨lw_p28, List.forall_mem_cons.mpr ⟨lw_p29, List.forall_mem_cons.mpr ⟨lw_p30, List.forall_mem_cons.mpr ⟨lw_p31, fun _ h => absurd h List.not_mem_nil⟩⟩⟩⟩⟩⟩⟩⟩⟩⟩⟩⟩⟩⟩⟩⟩
theorem lw_p32 : lw_okq (⟨"LastPlaceModel", "takeDoors", "()I"⟩, 44) := ⟨⟨by decide +kernel, by decide +kernel⟩, List.mem_of_getElem? (i := 886) (by decide +kernel), List.mem_of_getElem? (i := 1078) (by decide +kernel), List.mem_of_getElem? (i := 1079) (by decide +kernel)⟩
theorem lw_p33 : lw_okq (⟨"LastPlaceModel", "takeNumber", "(II)I"⟩, 44) := ⟨⟨by decide +kernel, by decide +kernel⟩, List.mem_of_getElem? (i := 886) (by decide +kernel), List.mem_of_getElem? (i := 1082) (by decide +kernel), List.mem_of_getElem? (i := 1083) (by decide +kernel)⟩
theorem lw_p34 : lw_okq (⟨"LastPlaceModel", "takeFigures", "(IIIZ)I"⟩, 44) := ⟨⟨by decide +kernel, by decide +kernel⟩, List.mem_of_getElem? (i := 886) (by decide +kernel), List.mem_of_getElem? (i := 1088) (by decide +kernel), List.mem_of_getElem? (i := 1089) (by decide +kernel)⟩
theorem lw_p35 : lw_okq (⟨"LastPlaceModel", "needs", "(J)I"⟩, 44) := ⟨⟨by decide +kernel, by decide +kernel⟩, List.mem_of_getElem? (i := 886) (by decide +kernel), List.mem_of_getElem? (i := 1092) (by decide +kernel), List.mem_of_getElem? (i := 1093) (by decide +kernel)⟩
theorem lw_p36 : lw_okq (⟨"LastPlaceModel", "takeSingle", "(I)I"⟩, 44) := ⟨⟨by decide +kernel, by decide +kernel⟩, List.mem_of_getElem? (i := 886) (by decide +kernel), List.mem_of_getElem? (i := 1096) (by decide +kernel), List.mem_of_getElem? (i := 1097) (by decide +kernel)⟩
theorem lw_p37 : lw_okq (⟨"LastPlaceModel", "takeSigned", "(I)I"⟩, 44) := ⟨⟨by decide +kernel, by decide +kernel⟩, List.mem_of_getElem? (i := 886) (by decide +kernel), List.mem_of_getElem? (i := 1100) (by decide +kernel), List.mem_of_getElem? (i := 1101) (by decide +kernel)⟩
theorem lw_p38 : lw_okq (⟨"LastPlaceModel", "isStreet", "(I)Z"⟩, 44) := ⟨⟨by decide +kernel, by decide +kernel⟩, List.mem_of_getElem? (i := 886) (by decide +kernel), List.mem_of_getElem? (i := 1112) (by decide +kernel), List.mem_of_getElem? (i := 1113) (by decide +kernel)⟩
theorem lw_p39 : lw_okq (⟨"LastPlaceModel", "of", "(II)I"⟩, 44) := ⟨⟨by decide +kernel, by decide +kernel⟩, List.mem_of_getElem? (i := 886) (by decide +kernel), List.mem_of_getElem? (i := 1117) (by decide +kernel), List.mem_of_getElem? (i := 1118) (by decide +kernel)⟩
theorem lw_p40 : lw_okq (⟨"LastPlaceModel", "isDoor", "(II)Z"⟩, 44) := ⟨⟨by decide +kernel, by decide +kernel⟩, List.mem_of_getElem? (i := 886) (by decide +kernel), List.mem_of_getElem? (i := 1125) (by decide +kernel), List.mem_of_getElem? (i := 1126) (by decide +kernel)⟩
theorem lw_p41 : lw_okq (⟨"LastPlaceModel", "chanceOf", "(IIZ)I"⟩, 44) := ⟨⟨by decide +kernel, by decide +kernel⟩, List.mem_of_getElem? (i := 886) (by decide +kernel), List.mem_of_getElem? (i := 1133) (by decide +kernel), List.mem_of_getElem? (i := 1134) (by decide +kernel)⟩
theorem lw_p42 : lw_okq (⟨"LastPlaceModel", "isRound", "(II)Z"⟩, 44) := ⟨⟨by decide +kernel, by decide +kernel⟩, List.mem_of_getElem? (i := 886) (by decide +kernel), List.mem_of_getElem? (i := 1141) (by decide +kernel), List.mem_of_getElem? (i := 1142) (by decide +kernel)⟩
theorem lw_p43 : lw_okq (⟨"LastPlaceModel", "takingOf", "(III)I"⟩, 44) := ⟨⟨by decide +kernel, by decide +kernel⟩, List.mem_of_getElem? (i := 886) (by decide +kernel), List.mem_of_getElem? (i := 1145) (by decide +kernel), List.mem_of_getElem? (i := 1146) (by decide +kernel)⟩
theorem lw_p44 : lw_okq (⟨"LastPlaceModel", "takingBy", "(IIII)I"⟩, 44) := ⟨⟨by decide +kernel, by decide +kernel⟩, List.mem_of_getElem? (i := 886) (by decide +kernel), List.mem_of_getElem? (i := 1149) (by decide +kernel), List.mem_of_getElem? (i := 1150) (by decide +kernel)⟩
theorem lw_p45 : lw_okq (⟨"LastPlaceModel", "tick", "(III)I"⟩, 44) := ⟨⟨by decide +kernel, by decide +kernel⟩, List.mem_of_getElem? (i := 886) (by decide +kernel), List.mem_of_getElem? (i := 1153) (by decide +kernel), List.mem_of_getElem? (i := 1154) (by decide +kernel)⟩
theorem lw_p46 : lw_okq (⟨"LastPlaceModel", "lateAt", "(II)I"⟩, 44) := ⟨⟨by decide +kernel, by decide +kernel⟩, List.mem_of_getElem? (i := 886) (by decide +kernel), List.mem_of_getElem? (i := 1157) (by decide +kernel), List.mem_of_getElem? (i := 1158) (by decide +kernel)⟩
theorem lw_p47 : lw_okq (⟨"LastPlaceModel", "isSight", "(III)Z"⟩, 44) := ⟨⟨by decide +kernel, by decide +kernel⟩, List.mem_of_getElem? (i := 886) (by decide +kernel), List.mem_of_getElem? (i := 1165) (by decide +kernel), List.mem_of_getElem? (i := 1166) (by decide +kernel)⟩
def lw_privs_3 : List (MethodName × Nat) := [(⟨"LastPlaceModel", "takeDoors", "()I"⟩, 44), (⟨"LastPlaceModel", "takeNumber", "(II)I"⟩, 44), (⟨"LastPlaceModel", "takeFigures", "(IIIZ)I"⟩, 44), (⟨"LastPlaceModel", "needs", "(J)I"⟩, 44), (⟨"LastPlaceModel", "takeSingle", "(I)I"⟩, 44), (⟨"LastPlaceModel", "takeSigned", "(I)I"⟩, 44), (⟨"LastPlaceModel", "isStreet", "(I)Z"⟩, 44), (⟨"LastPlaceModel", "of", "(II)I"⟩, 44), (⟨"LastPlaceModel", "isDoor", "(II)Z"⟩, 44), (⟨"LastPlaceModel", "chanceOf", "(IIZ)I"⟩, 44), (⟨"LastPlaceModel", "isRound", "(II)Z"⟩, 44), (⟨"LastPlaceModel", "takingOf", "(III)I"⟩, 44), (⟨"LastPlaceModel", "takingBy", "(IIII)I"⟩, 44), (⟨"LastPlaceModel", "tick", "(III)I"⟩, 44), (⟨"LastPlaceModel", "lateAt", "(II)I"⟩, 44), (⟨"LastPlaceModel", "isSight", "(III)Z"⟩, 44)]
theorem lw_r3 : ∀ q ∈ lw_privs_3, lw_okq q := List.forall_mem_cons.mpr ⟨lw_p32, List.forall_mem_cons.mpr ⟨lw_p33, List.forall_mem_cons.mpr ⟨lw_p34, List.forall_mem_cons.mpr ⟨lw_p35, List.forall_mem_cons.mpr ⟨lw_p36, List.forall_mem_cons.mpr ⟨lw_p37, List.forall_mem_cons.mpr ⟨lw_p38, List.forall_mem_cons.mpr ⟨lw_p39, List.forall_mem_cons.mpr ⟨lw_p40, List.forall_mem_cons.mpr ⟨lw_p41, List.forall_mem_cons.mpr ⟨lw_p42, List.forall_mem_cons.mpr ⟨lw_p43, List.forall_mem_cons.mpr ⟨lw_p44, List.forall_mem_cons.mpr ⟨lw_p45, List.forall_mem_cons.mpr ⟨lw_p46, List.forall_mem_cons.mpr ⟨lw_p47, fun _ h => absurd h List.not_mem_nil⟩⟩⟩⟩⟩⟩⟩⟩⟩⟩⟩⟩⟩⟩⟩⟩
theorem lw_p48 : lw_okq (⟨"LastPlaceModel", "seen", "(II)I"⟩, 44) := ⟨⟨by decide +kernel, by decide +kernel⟩, List.mem_of_getElem? (i := 886) (by decide +kernel), List.mem_of_getElem? (i := 1169) (by decide +kernel), List.mem_of_getElem? (i := 1170) (by decide +kernel)⟩
theorem lw_p49 : lw_okq (⟨"LastPlaceModel", "findWay", "(I)V"⟩, 44) := ⟨⟨by decide +kernel, by decide +kernel⟩, List.mem_of_getElem? (i := 886) (by decide +kernel), List.mem_of_getElem? (i := 1173) (by decide +kernel), List.mem_of_getElem? (i := 1174) (by decide +kernel)⟩
theorem lw_p50 : lw_okq (⟨"LastPlaceModel", "findRound", "(II)V"⟩, 44) := ⟨⟨by decide +kernel, by decide +kernel⟩, List.mem_of_getElem? (i := 886) (by decide +kernel), List.mem_of_getElem? (i := 1177) (by decide +kernel), List.mem_of_getElem? (i := 1178) (by decide +kernel)⟩
theorem lw_p51 : lw_okq (⟨"LastPlaceModel", "garageOf", "(II)I"⟩, 44) := ⟨⟨by decide +kernel, by decide +kernel⟩, List.mem_of_getElem? (i := 886) (by decide +kernel), List.mem_of_getElem? (i := 1181) (by decide +kernel), List.mem_of_getElem? (i := 1182) (by decide +kernel)⟩
theorem lw_p52 : lw_okq (⟨"LastPlaceModel", "on", "(IIII)I"⟩, 44) := ⟨⟨by decide +kernel, by decide +kernel⟩, List.mem_of_getElem? (i := 886) (by decide +kernel), List.mem_of_getElem? (i := 1185) (by decide +kernel), List.mem_of_getElem? (i := 1186) (by decide +kernel)⟩
theorem lw_p53 : lw_okq (⟨"LastPlaceModel", "startOf", "(II)I"⟩, 44) := ⟨⟨by decide +kernel, by decide +kernel⟩, List.mem_of_getElem? (i := 886) (by decide +kernel), List.mem_of_getElem? (i := 1196) (by decide +kernel), List.mem_of_getElem? (i := 1197) (by decide +kernel)⟩
theorem lw_p54 : lw_okq (⟨"LastPlaceModel", "isTaking", "(IIII)Z"⟩, 44) := ⟨⟨by decide +kernel, by decide +kernel⟩, List.mem_of_getElem? (i := 886) (by decide +kernel), List.mem_of_getElem? (i := 1208) (by decide +kernel), List.mem_of_getElem? (i := 1209) (by decide +kernel)⟩
theorem lw_p55 : lw_okq (⟨"LastPlaceModel", "takeRule", "()I"⟩, 44) := ⟨⟨by decide +kernel, by decide +kernel⟩, List.mem_of_getElem? (i := 886) (by decide +kernel), List.mem_of_getElem? (i := 1232) (by decide +kernel), List.mem_of_getElem? (i := 1233) (by decide +kernel)⟩
theorem lw_p56 : lw_okq (⟨"LastPlaceModel", "takeSeen", "(J)I"⟩, 44) := ⟨⟨by decide +kernel, by decide +kernel⟩, List.mem_of_getElem? (i := 886) (by decide +kernel), List.mem_of_getElem? (i := 1236) (by decide +kernel), List.mem_of_getElem? (i := 1237) (by decide +kernel)⟩
theorem lw_p57 : lw_okq (⟨"LastPlaceModel", "isRule", "(I)Z"⟩, 44) := ⟨⟨by decide +kernel, by decide +kernel⟩, List.mem_of_getElem? (i := 886) (by decide +kernel), List.mem_of_getElem? (i := 1244) (by decide +kernel), List.mem_of_getElem? (i := 1245) (by decide +kernel)⟩
theorem lw_p58 : lw_okq (⟨"LastPlaceModel", "meanOf", "(III)I"⟩, 44) := ⟨⟨by decide +kernel, by decide +kernel⟩, List.mem_of_getElem? (i := 886) (by decide +kernel), List.mem_of_getElem? (i := 1248) (by decide +kernel), List.mem_of_getElem? (i := 1249) (by decide +kernel)⟩
theorem lw_p59 : lw_okq (⟨"LastPlaceModel", "isRoundBy", "(III)Z"⟩, 44) := ⟨⟨by decide +kernel, by decide +kernel⟩, List.mem_of_getElem? (i := 886) (by decide +kernel), List.mem_of_getElem? (i := 1252) (by decide +kernel), List.mem_of_getElem? (i := 1253) (by decide +kernel)⟩
theorem lw_p60 : lw_okq (⟨"LastPlaceModel", "byGarage", "(III)I"⟩, 44) := ⟨⟨by decide +kernel, by decide +kernel⟩, List.mem_of_getElem? (i := 886) (by decide +kernel), List.mem_of_getElem? (i := 1256) (by decide +kernel), List.mem_of_getElem? (i := 1257) (by decide +kernel)⟩
theorem lw_p61 : lw_okq (⟨"LastPlaceModel", "isFor", "(III)Z"⟩, 44) := ⟨⟨by decide +kernel, by decide +kernel⟩, List.mem_of_getElem? (i := 886) (by decide +kernel), List.mem_of_getElem? (i := 1261) (by decide +kernel), List.mem_of_getElem? (i := 1262) (by decide +kernel)⟩
theorem lw_p62 : lw_okq (⟨"LastPlaceModel", "byTaking", "(IIII)I"⟩, 44) := ⟨⟨by decide +kernel, by decide +kernel⟩, List.mem_of_getElem? (i := 886) (by decide +kernel), List.mem_of_getElem? (i := 1265) (by decide +kernel), List.mem_of_getElem? (i := 1266) (by decide +kernel)⟩
theorem lw_p63 : lw_okq (⟨"LastPlaceModel", "isCar", "(I)Z"⟩, 44) := ⟨⟨by decide +kernel, by decide +kernel⟩, List.mem_of_getElem? (i := 886) (by decide +kernel), List.mem_of_getElem? (i := 1305) (by decide +kernel), List.mem_of_getElem? (i := 1306) (by decide +kernel)⟩
def lw_privs_4 : List (MethodName × Nat) := [(⟨"LastPlaceModel", "seen", "(II)I"⟩, 44), (⟨"LastPlaceModel", "findWay", "(I)V"⟩, 44), (⟨"LastPlaceModel", "findRound", "(II)V"⟩, 44), (⟨"LastPlaceModel", "garageOf", "(II)I"⟩, 44), (⟨"LastPlaceModel", "on", "(IIII)I"⟩, 44), (⟨"LastPlaceModel", "startOf", "(II)I"⟩, 44), (⟨"LastPlaceModel", "isTaking", "(IIII)Z"⟩, 44), (⟨"LastPlaceModel", "takeRule", "()I"⟩, 44), (⟨"LastPlaceModel", "takeSeen", "(J)I"⟩, 44), (⟨"LastPlaceModel", "isRule", "(I)Z"⟩, 44), (⟨"LastPlaceModel", "meanOf", "(III)I"⟩, 44), (⟨"LastPlaceModel", "isRoundBy", "(III)Z"⟩, 44), (⟨"LastPlaceModel", "byGarage", "(III)I"⟩, 44), (⟨"LastPlaceModel", "isFor", "(III)Z"⟩, 44), (⟨"LastPlaceModel", "byTaking", "(IIII)I"⟩, 44), (⟨"LastPlaceModel", "isCar", "(I)Z"⟩, 44)]
theorem lw_r4 : ∀ q ∈ lw_privs_4, lw_okq q := List.forall_mem_cons.mpr ⟨lw_p48, List.forall_mem_cons.mpr ⟨lw_p49, List.forall_mem_cons.mpr ⟨lw_p50, List.forall_mem_cons.mpr ⟨lw_p51, List.forall_mem_cons.mpr ⟨lw_p52, List.forall_mem_cons.mpr ⟨lw_p53, List.forall_mem_cons.mpr ⟨lw_p54, List.forall_mem_cons.mpr ⟨lw_p55, List.forall_mem_cons.mpr ⟨lw_p56, List.forall_mem_cons.mpr ⟨lw_p57, List.forall_mem_cons.mpr ⟨lw_p58, List.forall_mem_cons.mpr ⟨lw_p59, List.forall_mem_cons.mpr ⟨lw_p60, List.forall_mem_cons.mpr ⟨lw_p61, List.forall_mem_cons.mpr ⟨lw_p62, List.forall_mem_cons.mpr ⟨lw_p63, fun _ h => absurd h List.not_mem_nil⟩⟩⟩⟩⟩⟩⟩⟩⟩⟩⟩⟩⟩⟩⟩⟩
theorem lw_p64 : lw_okq (⟨"LastPlaceModel", "isSet", "(II)Z"⟩, 44) := ⟨⟨by decide +kernel, by decide +kernel⟩, List.mem_of_getElem? (i := 886) (by decide +kernel), List.mem_of_getElem? (i := 1313) (by decide +kernel), List.mem_of_getElem? (i := 1314) (by decide +kernel)⟩
theorem lw_p65 : lw_okq (⟨"LastPlaceModel", "costOf", "(III)I"⟩, 44) := ⟨⟨by decide +kernel, by decide +kernel⟩, List.mem_of_getElem? (i := 886) (by decide +kernel), List.mem_of_getElem? (i := 1317) (by decide +kernel), List.mem_of_getElem? (i := 1318) (by decide +kernel)⟩
theorem lw_p66 : lw_okq (⟨"LastPlaceModel", "parkAll", "(II)V"⟩, 44) := ⟨⟨by decide +kernel, by decide +kernel⟩, List.mem_of_getElem? (i := 886) (by decide +kernel), List.mem_of_getElem? (i := 1321) (by decide +kernel), List.mem_of_getElem? (i := 1322) (by decide +kernel)⟩
theorem lw_p67 : lw_okq (⟨"LastPlaceModel", "costAt", "(III)I"⟩, 44) := ⟨⟨by decide +kernel, by decide +kernel⟩, List.mem_of_getElem? (i := 886) (by decide +kernel), List.mem_of_getElem? (i := 1325) (by decide +kernel), List.mem_of_getElem? (i := 1326) (by decide +kernel)⟩
theorem lw_p68 : lw_okq (⟨"LastPlaceModel", "isAtRest", "(II)Z"⟩, 44) := ⟨⟨by decide +kernel, by decide +kernel⟩, List.mem_of_getElem? (i := 886) (by decide +kernel), List.mem_of_getElem? (i := 1333) (by decide +kernel), List.mem_of_getElem? (i := 1334) (by decide +kernel)⟩
theorem lw_p69 : lw_okq (⟨"LastPlaceModel", "bestBar", "(III)I"⟩, 44) := ⟨⟨by decide +kernel, by decide +kernel⟩, List.mem_of_getElem? (i := 886) (by decide +kernel), List.mem_of_getElem? (i := 1337) (by decide +kernel), List.mem_of_getElem? (i := 1338) (by decide +kernel)⟩
theorem lw_p70 : lw_okq (⟨"LastPlaceModel", "turnAll", "(II)I"⟩, 44) := ⟨⟨by decide +kernel, by decide +kernel⟩, List.mem_of_getElem? (i := 886) (by decide +kernel), List.mem_of_getElem? (i := 1345) (by decide +kernel), List.mem_of_getElem? (i := 1346) (by decide +kernel)⟩
theorem lw_p71 : lw_okq (⟨"LastPlaceModel", "holdBars", "()V"⟩, 44) := ⟨⟨by decide +kernel, by decide +kernel⟩, List.mem_of_getElem? (i := 886) (by decide +kernel), List.mem_of_getElem? (i := 1353) (by decide +kernel), List.mem_of_getElem? (i := 1354) (by decide +kernel)⟩
theorem lw_p72 : lw_okq (⟨"LastPlaceModel", "putBars", "()V"⟩, 44) := ⟨⟨by decide +kernel, by decide +kernel⟩, List.mem_of_getElem? (i := 886) (by decide +kernel), List.mem_of_getElem? (i := 1357) (by decide +kernel), List.mem_of_getElem? (i := 1358) (by decide +kernel)⟩
theorem lw_p73 : lw_okq (⟨"LastPlaceModel", "allCosts", "(II)I"⟩, 44) := ⟨⟨by decide +kernel, by decide +kernel⟩, List.mem_of_getElem? (i := 886) (by decide +kernel), List.mem_of_getElem? (i := 1365) (by decide +kernel), List.mem_of_getElem? (i := 1366) (by decide +kernel)⟩
theorem lw_p74 : lw_okq (⟨"LastPlaceModel", "leastAll", "(II)I"⟩, 44) := ⟨⟨by decide +kernel, by decide +kernel⟩, List.mem_of_getElem? (i := 886) (by decide +kernel), List.mem_of_getElem? (i := 1369) (by decide +kernel), List.mem_of_getElem? (i := 1370) (by decide +kernel)⟩
theorem lw_p75 : lw_okq (⟨"LastPlaceModel", "sumAll", "(IIIII)I"⟩, 44) := ⟨⟨by decide +kernel, by decide +kernel⟩, List.mem_of_getElem? (i := 886) (by decide +kernel), List.mem_of_getElem? (i := 1382) (by decide +kernel), List.mem_of_getElem? (i := 1383) (by decide +kernel)⟩
theorem lw_p76 : lw_okq (⟨"LastPlaceModel", "drive", "(II)I"⟩, 44) := ⟨⟨by decide +kernel, by decide +kernel⟩, List.mem_of_getElem? (i := 886) (by decide +kernel), List.mem_of_getElem? (i := 1399) (by decide +kernel), List.mem_of_getElem? (i := 1400) (by decide +kernel)⟩
theorem lw_p77 : lw_okq (⟨"LastPlaceModel", "draw", "()I"⟩, 44) := ⟨⟨by decide +kernel, by decide +kernel⟩, List.mem_of_getElem? (i := 886) (by decide +kernel), List.mem_of_getElem? (i := 1403) (by decide +kernel), List.mem_of_getElem? (i := 1404) (by decide +kernel)⟩
def lw_privs_5 : List (MethodName × Nat) := [(⟨"LastPlaceModel", "isSet", "(II)Z"⟩, 44), (⟨"LastPlaceModel", "costOf", "(III)I"⟩, 44), (⟨"LastPlaceModel", "parkAll", "(II)V"⟩, 44), (⟨"LastPlaceModel", "costAt", "(III)I"⟩, 44), (⟨"LastPlaceModel", "isAtRest", "(II)Z"⟩, 44), (⟨"LastPlaceModel", "bestBar", "(III)I"⟩, 44), (⟨"LastPlaceModel", "turnAll", "(II)I"⟩, 44), (⟨"LastPlaceModel", "holdBars", "()V"⟩, 44), (⟨"LastPlaceModel", "putBars", "()V"⟩, 44), (⟨"LastPlaceModel", "allCosts", "(II)I"⟩, 44), (⟨"LastPlaceModel", "leastAll", "(II)I"⟩, 44), (⟨"LastPlaceModel", "sumAll", "(IIIII)I"⟩, 44), (⟨"LastPlaceModel", "drive", "(II)I"⟩, 44), (⟨"LastPlaceModel", "draw", "()I"⟩, 44)]
theorem lw_r5 : ∀ q ∈ lw_privs_5, lw_okq q := List.forall_mem_cons.mpr ⟨lw_p64, List.forall_mem_cons.mpr ⟨lw_p65, List.forall_mem_cons.mpr ⟨lw_p66, List.forall_mem_cons.mpr ⟨lw_p67, List.forall_mem_cons.mpr ⟨lw_p68, List.forall_mem_cons.mpr ⟨lw_p69, List.forall_mem_cons.mpr ⟨lw_p70, List.forall_mem_cons.mpr ⟨lw_p71, List.forall_mem_cons.mpr ⟨lw_p72, List.forall_mem_cons.mpr ⟨lw_p73, List.forall_mem_cons.mpr ⟨lw_p74, List.forall_mem_cons.mpr ⟨lw_p75, List.forall_mem_cons.mpr ⟨lw_p76, List.forall_mem_cons.mpr ⟨lw_p77, fun _ h => absurd h List.not_mem_nil⟩⟩⟩⟩⟩⟩⟩⟩⟩⟩⟩⟩⟩⟩
def lw_privs : List (MethodName × Nat) := lw_privs_1 ++ (lw_privs_2 ++ (lw_privs_3 ++ (lw_privs_4 ++ (lw_privs_5))))
def lw_tbl : List Cond := k2_sels lw_privs ++ tables_1
theorem lw_privs_ok : ∀ q ∈ lw_privs, lw_okq q := by
  show ∀ q ∈ lw_privs_1 ++ (lw_privs_2 ++ (lw_privs_3 ++ (lw_privs_4 ++ (lw_privs_5)))), lw_okq q
  exact List.forall_mem_append.mpr ⟨lw_r1, List.forall_mem_append.mpr ⟨lw_r2, List.forall_mem_append.mpr ⟨lw_r3, List.forall_mem_append.mpr ⟨lw_r4, lw_r5⟩⟩⟩⟩
end
section
def RX0 : String := "LastPlace$BestWay"
def TX0 : u_T := fun k => match k with
  | 0 => ("LastPlace$BestWay", "street", "LLastPlace$Street;", true)
  | 1 => ("LastPlace$BestWay", "onward", "[I", true)
  | 2 => ("LastPlace$BestWay", "starts", "[I", true)
  | 3 => ("LastPlace$BestWay", "ends", "[I", true)
  | _ => ("LastPlace$BestWay", "folded", "[I", true)
def tyX0 : Nat → FieldType := fun k => match k with
  | 0 => .object "LastPlace$Street"
  | 1 => .array .int
  | 2 => .array .int
  | 3 => .array .int
  | _ => .array .int
theorem nmX0 : ∀ a, a < 5 → ∀ b, b < 5 → a ≠ b → (TX0 a).2.1 ≠ (TX0 b).2.1 := by decide +kernel
theorem tyX0_ok : ∀ k, k < 5 → parseFieldDescriptor (TX0 k).2.2.1 = some (tyX0 k) := by decide +kernel
abbrev cX0_init : ByteArray := prog_2_method_1_code
def yX0_init : MethodName := ⟨RX0, "<init>", "(LLastPlace$Street;)V"⟩
abbrev cX0_reckon : ByteArray := prog_2_method_2_code
def yX0_reckon : MethodName := ⟨RX0, "reckon", "()V"⟩
abbrev cX0_reckonEnd : ByteArray := prog_2_method_3_code
def yX0_reckonEnd : MethodName := ⟨RX0, "reckonEnd", "(I)I"⟩
abbrev cX0_reckonDoor : ByteArray := prog_2_method_4_code
def yX0_reckonDoor : MethodName := ⟨RX0, "reckonDoor", "(II)V"⟩
abbrev cX0_reckonNext : ByteArray := prog_2_method_5_code
def yX0_reckonNext : MethodName := ⟨RX0, "reckonNext", "(III)I"⟩
abbrev cX0_reckonStart : ByteArray := prog_2_method_6_code
def yX0_reckonStart : MethodName := ⟨RX0, "reckonStart", "(I)I"⟩
abbrev cX0_slot : ByteArray := prog_2_method_7_code
def yX0_slot : MethodName := ⟨RX0, "slot", "(III)I"⟩
abbrev cX0_onwardOf : ByteArray := prog_2_method_8_code
def yX0_onwardOf : MethodName := ⟨RX0, "onwardOf", "(III)I"⟩
abbrev cX0_isTaken : ByteArray := prog_2_method_9_code
def yX0_isTaken : MethodName := ⟨RX0, "isTaken", "(III)Z"⟩
abbrev cX0_worthOf : ByteArray := prog_2_method_10_code
def yX0_worthOf : MethodName := ⟨RX0, "worthOf", "(III)I"⟩
abbrev cX0_barOf : ByteArray := prog_2_method_11_code
def yX0_barOf : MethodName := ⟨RX0, "barOf", "(I)I"⟩
abbrev cX0_isTakenByAll : ByteArray := prog_2_method_12_code
def yX0_isTakenByAll : MethodName := ⟨RX0, "isTakenByAll", "(II)Z"⟩
abbrev cX0_isTakenByAny : ByteArray := prog_2_method_13_code
def yX0_isTakenByAny : MethodName := ⟨RX0, "isTakenByAny", "(II)Z"⟩
abbrev cX0_firstWrong : ByteArray := prog_2_method_14_code
def yX0_firstWrong : MethodName := ⟨RX0, "firstWrong", "(ILLastPlace$Scene;Z)I"⟩
def RX1 : String := "LastPlace$Parking"
def TX1 : u_T := fun k => match k with
  | 0 => ("LastPlace$Parking", "scene", "LLastPlace$Scene;", true)
  | 1 => ("LastPlace$Parking", "bars", "[I", true)
  | 2 => ("LastPlace$Parking", "costs", "[I", true)
  | 3 => ("LastPlace$Parking", "given", "[I", true)
  | 4 => ("LastPlace$Parking", "n", "I", false)
  | 5 => ("LastPlace$Parking", "free", "I", false)
  | 6 => ("LastPlace$Parking", "dearFrom", "I", false)
  | _ => ("LastPlace$Parking", "dearer", "I", false)
def tyX1 : Nat → FieldType := fun k => match k with
  | 0 => .object "LastPlace$Scene"
  | 1 => .array .int
  | 2 => .array .int
  | 3 => .array .int
  | 4 => .int
  | 5 => .int
  | 6 => .int
  | _ => .int
theorem nmX1 : ∀ a, a < 8 → ∀ b, b < 8 → a ≠ b → (TX1 a).2.1 ≠ (TX1 b).2.1 := by decide +kernel
theorem tyX1_ok : ∀ k, k < 8 → parseFieldDescriptor (TX1 k).2.2.1 = some (tyX1 k) := by decide +kernel
abbrev cX1_init : ByteArray := prog_3_method_1_code
def yX1_init : MethodName := ⟨RX1, "<init>", "(LLastPlace$Scene;)V"⟩
abbrev cX1_comeTo : ByteArray := prog_3_method_2_code
def yX1_comeTo : MethodName := ⟨RX1, "comeTo", "(LLastPlace$Street;I)V"⟩
abbrev cX1_costAt : ByteArray := prog_3_method_3_code
def yX1_costAt : MethodName := ⟨RX1, "costAt", "(II)I"⟩
abbrev cX1_paidAt : ByteArray := prog_3_method_4_code
def yX1_paidAt : MethodName := ⟨RX1, "paidAt", "(II)I"⟩
abbrev cX1_placeFrom : ByteArray := prog_3_method_5_code
def yX1_placeFrom : MethodName := ⟨RX1, "placeFrom", "(II)I"⟩
abbrev cX1_leftBehind : ByteArray := prog_3_method_6_code
def yX1_leftBehind : MethodName := ⟨RX1, "leftBehind", "(II)I"⟩
abbrev cX1_placeOf : ByteArray := prog_3_method_7_code
def yX1_placeOf : MethodName := ⟨RX1, "placeOf", "(I)I"⟩
abbrev cX1_bestBar : ByteArray := prog_3_method_8_code
def yX1_bestBar : MethodName := ⟨RX1, "bestBar", "(II)I"⟩
abbrev cX1_isAtRest : ByteArray := prog_3_method_9_code
def yX1_isAtRest : MethodName := ⟨RX1, "isAtRest", "()Z"⟩
abbrev cX1_goByTurns : ByteArray := prog_3_method_10_code
def yX1_goByTurns : MethodName := ⟨RX1, "goByTurns", "()I"⟩
abbrev cX1_changeInTurn : ByteArray := prog_3_method_11_code
def yX1_changeInTurn : MethodName := ⟨RX1, "changeInTurn", "()Z"⟩
abbrev cX1_countRests : ByteArray := prog_3_method_12_code
def yX1_countRests : MethodName := ⟨RX1, "countRests", "()I"⟩
abbrev cX1_costOfAll : ByteArray := prog_3_method_13_code
def yX1_costOfAll : MethodName := ⟨RX1, "costOfAll", "()I"⟩
abbrev cX1_leastOfAll : ByteArray := prog_3_method_14_code
def yX1_leastOfAll : MethodName := ⟨RX1, "leastOfAll", "()I"⟩
abbrev cX1_giveDoor : ByteArray := prog_3_method_15_code
def yX1_giveDoor : MethodName := ⟨RX1, "giveDoor", "(II)V"⟩
abbrev cX1_mendingPrice : ByteArray := prog_3_method_16_code
def yX1_mendingPrice : MethodName := ⟨RX1, "mendingPrice", "(I)I"⟩
def RX2 : String := "LastPlace$Reckoner"
def TX2 : u_T := fun k => match k with
  | 0 => ("LastPlace$Reckoner", "afterFree", "[I", true)
  | 1 => ("LastPlace$Reckoner", "afterTaken", "[I", true)
  | 2 => ("LastPlace$Reckoner", "least", "[I", true)
  | 3 => ("LastPlace$Reckoner", "waitTicks", "I", false)
  | _ => ("LastPlace$Reckoner", "waitCost", "I", false)
def tyX2 : Nat → FieldType := fun k => match k with
  | 0 => .array .int
  | 1 => .array .int
  | 2 => .array .int
  | 3 => .int
  | _ => .int
theorem nmX2 : ∀ a, a < 5 → ∀ b, b < 5 → a ≠ b → (TX2 a).2.1 ≠ (TX2 b).2.1 := by decide +kernel
theorem tyX2_ok : ∀ k, k < 5 → parseFieldDescriptor (TX2 k).2.2.1 = some (tyX2 k) := by decide +kernel
abbrev cX2_init : ByteArray := prog_4_method_1_code
def yX2_init : MethodName := ⟨RX2, "<init>", "()V"⟩
abbrev cX2_meanOf : ByteArray := prog_4_method_2_code
def yX2_meanOf : MethodName := ⟨RX2, "meanOf", "(LLastPlace$Street;LLastPlace$Rule;I)I"⟩
abbrev cX2_garageShare : ByteArray := prog_4_method_3_code
def yX2_garageShare : MethodName := ⟨RX2, "garageShare", "(LLastPlace$Street;II)I"⟩
abbrev cX2_doorShare : ByteArray := prog_4_method_4_code
def yX2_doorShare : MethodName := ⟨RX2, "doorShare", "(LLastPlace$Street;III)I"⟩
abbrev cX2_meanOfRound : ByteArray := prog_4_method_5_code
def yX2_meanOfRound : MethodName := ⟨RX2, "meanOfRound", "(LLastPlace$Street;LLastPlace$Rule;III)I"⟩
abbrev cX2_boyOf : ByteArray := prog_4_method_6_code
def yX2_boyOf : MethodName := ⟨RX2, "boyOf", "(LLastPlace$Street;I)I"⟩
abbrev cX2_reckonWait : ByteArray := prog_4_method_7_code
def yX2_reckonWait : MethodName := ⟨RX2, "reckonWait", "(IIII)V"⟩
abbrev cX2_thoughtOf : ByteArray := prog_4_method_8_code
def yX2_thoughtOf : MethodName := ⟨RX2, "thoughtOf", "(LLastPlace$Street;LLastPlace$Street;LLastPlace$Scene;)I"⟩
abbrev cX2_likelihood : ByteArray := prog_4_method_9_code
def yX2_likelihood : MethodName := ⟨RX2, "likelihood", "(LLastPlace$Street;IZZ)I"⟩
abbrev cX2_eveningOf : ByteArray := prog_4_method_10_code
def yX2_eveningOf : MethodName := ⟨RX2, "eveningOf", "(LLastPlace$Street;LLastPlace$Rule;LLastPlace$Scene;)I"⟩
def RX3 : String := "LastPlace$Rule"
def TX3 : u_T := fun k => match k with
  | 0 => ("LastPlace$Rule", "seen", "[I", true)
  | 1 => ("LastPlace$Rule", "from", "[I", true)
  | 2 => ("LastPlace$Rule", "firstFrom", "I", false)
  | 3 => ("LastPlace$Rule", "changes", "I", false)
  | _ => ("LastPlace$Rule", "rounds", "I", false)
def tyX3 : Nat → FieldType := fun k => match k with
  | 0 => .array .int
  | 1 => .array .int
  | 2 => .int
  | 3 => .int
  | _ => .int
theorem nmX3 : ∀ a, a < 5 → ∀ b, b < 5 → a ≠ b → (TX3 a).2.1 ≠ (TX3 b).2.1 := by decide +kernel
theorem tyX3_ok : ∀ k, k < 5 → parseFieldDescriptor (TX3 k).2.2.1 = some (tyX3 k) := by decide +kernel
abbrev cX3_init : ByteArray := prog_5_method_1_code
def yX3_init : MethodName := ⟨RX3, "<init>", "()V"⟩
abbrev cX3_readFrom : ByteArray := prog_5_method_2_code
def yX3_readFrom : MethodName := ⟨RX3, "readFrom", "(LLastPlace$Text;)V"⟩
abbrev cX3_readChange : ByteArray := prog_5_method_3_code
def yX3_readChange : MethodName := ⟨RX3, "readChange", "(LLastPlace$Text;)V"⟩
abbrev cX3_barAfter : ByteArray := prog_5_method_4_code
def yX3_barAfter : MethodName := ⟨RX3, "barAfter", "(I)I"⟩
abbrev cX3_roundsIn : ByteArray := prog_5_method_5_code
def yX3_roundsIn : MethodName := ⟨RX3, "roundsIn", "(LLastPlace$Street;)I"⟩
def RX4 : String := "LastPlace$Scene"
def TX4 : u_T := fun k => match k with
  | 0 => ("LastPlace$Scene", "walks", "[I", true)
  | 1 => ("LastPlace$Scene", "bars", "[I", true)
  | 2 => ("LastPlace$Scene", "carCount", "I", false)
  | 3 => ("LastPlace$Scene", "rowSize", "I", false)
  | 4 => ("LastPlace$Scene", "rowFree", "I", false)
  | _ => ("LastPlace$Scene", "seedNow", "I", false)
def tyX4 : Nat → FieldType := fun k => match k with
  | 0 => .array .int
  | 1 => .array .int
  | 2 => .int
  | 3 => .int
  | 4 => .int
  | _ => .int
theorem nmX4 : ∀ a, a < 6 → ∀ b, b < 6 → a ≠ b → (TX4 a).2.1 ≠ (TX4 b).2.1 := by decide +kernel
theorem tyX4_ok : ∀ k, k < 6 → parseFieldDescriptor (TX4 k).2.2.1 = some (tyX4 k) := by decide +kernel
abbrev cX4_init : ByteArray := prog_6_method_1_code
def yX4_init : MethodName := ⟨RX4, "<init>", "()V"⟩
abbrev cX4_copyFrom : ByteArray := prog_6_method_2_code
def yX4_copyFrom : MethodName := ⟨RX4, "copyFrom", "(LLastPlace$Scene;)V"⟩
abbrev cX4_see : ByteArray := prog_6_method_3_code
def yX4_see : MethodName := ⟨RX4, "see", "(Z)I"⟩
abbrev cX4_sawFree : ByteArray := prog_6_method_4_code
def yX4_sawFree : MethodName := ⟨RX4, "sawFree", "(I)Z"⟩
abbrev cX4_addCar : ByteArray := prog_6_method_5_code
def yX4_addCar : MethodName := ⟨RX4, "addCar", "(II)I"⟩
abbrev cX4_takeBars : ByteArray := prog_6_method_6_code
def yX4_takeBars : MethodName := ⟨RX4, "takeBars", "([I)V"⟩
abbrev cX4_draw : ByteArray := prog_6_method_7_code
def yX4_draw : MethodName := ⟨RX4, "draw", "()I"⟩
def RX5 : String := "LastPlace$Street"
def TX5 : u_T := fun k => match k with
  | 0 => ("LastPlace$Street", "values", "[I", true)
  | 1 => ("LastPlace$Street", "frees", "[I", true)
  | 2 => ("LastPlace$Street", "prices", "[I", true)
  | _ => ("LastPlace$Street", "lateness", "[I", true)
def tyX5 : Nat → FieldType := fun k => match k with
  | 0 => .array .int
  | 1 => .array .int
  | 2 => .array .int
  | _ => .array .int
theorem nmX5 : ∀ a, a < 4 → ∀ b, b < 4 → a ≠ b → (TX5 a).2.1 ≠ (TX5 b).2.1 := by decide +kernel
theorem tyX5_ok : ∀ k, k < 4 → parseFieldDescriptor (TX5 k).2.2.1 = some (tyX5 k) := by decide +kernel
abbrev cX5_init : ByteArray := prog_7_method_1_code
def yX5_init : MethodName := ⟨RX5, "<init>", "()V"⟩
abbrev cX5_doors : ByteArray := prog_7_method_2_code
def yX5_doors : MethodName := ⟨RX5, "doors", "()I"⟩
abbrev cX5_become : ByteArray := prog_7_method_3_code
def yX5_become : MethodName := ⟨RX5, "become", "(LLastPlace$Street;)V"⟩
abbrev cX5_readFrom : ByteArray := prog_7_method_4_code
def yX5_readFrom : MethodName := ⟨RX5, "readFrom", "(LLastPlace$Text;)V"⟩
abbrev cX5_takeClauseWord : ByteArray := prog_7_method_5_code
def yX5_takeClauseWord : MethodName := ⟨RX5, "takeClauseWord", "(LLastPlace$Text;)I"⟩
abbrev cX5_wordOf : ByteArray := prog_7_method_6_code
def yX5_wordOf : MethodName := ⟨RX5, "wordOf", "(I)Ljava/lang/String;"⟩
abbrev cX5_readDoors : ByteArray := prog_7_method_7_code
def yX5_readDoors : MethodName := ⟨RX5, "readDoors", "(LLastPlace$Text;)V"⟩
abbrev cX5_readClause : ByteArray := prog_7_method_8_code
def yX5_readClause : MethodName := ⟨RX5, "readClause", "(LLastPlace$Text;I)V"⟩
abbrev cX5_chanceOf : ByteArray := prog_7_method_9_code
def yX5_chanceOf : MethodName := ⟨RX5, "chanceOf", "(IZ)I"⟩
abbrev cX5_arrivalOf : ByteArray := prog_7_method_10_code
def yX5_arrivalOf : MethodName := ⟨RX5, "arrivalOf", "(I)I"⟩
abbrev cX5_isLateIn : ByteArray := prog_7_method_11_code
def yX5_isLateIn : MethodName := ⟨RX5, "isLateIn", "(I)Z"⟩
abbrev cX5_takingOf : ByteArray := prog_7_method_12_code
def yX5_takingOf : MethodName := ⟨RX5, "takingOf", "(II)I"⟩
abbrev cX5_takingBy : ByteArray := prog_7_method_13_code
def yX5_takingBy : MethodName := ⟨RX5, "takingBy", "(III)I"⟩
abbrev cX5_garageOf : ByteArray := prog_7_method_14_code
def yX5_garageOf : MethodName := ⟨RX5, "garageOf", "(I)I"⟩
abbrev cX5_passing : ByteArray := prog_7_method_15_code
def yX5_passing : MethodName := ⟨RX5, "passing", "()I"⟩
abbrev cX5_roundDrive : ByteArray := prog_7_method_16_code
def yX5_roundDrive : MethodName := ⟨RX5, "roundDrive", "()I"⟩
abbrev cX5_sightsAt : ByteArray := prog_7_method_17_code
def yX5_sightsAt : MethodName := ⟨RX5, "sightsAt", "(I)I"⟩
def RX6 : String := "LastPlace$Text"
def TX6 : u_T := fun k => match k with
  | 0 => ("LastPlace$Text", "bytes", "[B", true)
  | 1 => ("LastPlace$Text", "size", "I", false)
  | 2 => ("LastPlace$Text", "at", "I", false)
  | 3 => ("LastPlace$Text", "numberAt", "I", false)
  | 4 => ("LastPlace$Text", "faultNumber", "I", false)
  | _ => ("LastPlace$Text", "faultByte", "I", false)
def tyX6 : Nat → FieldType := fun k => match k with
  | 0 => .array .byte
  | 1 => .int
  | 2 => .int
  | 3 => .int
  | 4 => .int
  | _ => .int
theorem nmX6 : ∀ a, a < 6 → ∀ b, b < 6 → a ≠ b → (TX6 a).2.1 ≠ (TX6 b).2.1 := by decide +kernel
theorem tyX6_ok : ∀ k, k < 6 → parseFieldDescriptor (TX6 k).2.2.1 = some (tyX6 k) := by decide +kernel
abbrev cX6_init : ByteArray := prog_8_method_1_code
def yX6_init : MethodName := ⟨RX6, "<init>", "()V"⟩
abbrev cX6_append : ByteArray := prog_8_method_2_code
def yX6_append : MethodName := ⟨RX6, "append", "(B)V"⟩
abbrev cX6_rewind : ByteArray := prog_8_method_3_code
def yX6_rewind : MethodName := ⟨RX6, "rewind", "()V"⟩
abbrev cX6_failed : ByteArray := prog_8_method_4_code
def yX6_failed : MethodName := ⟨RX6, "failed", "()Z"⟩
abbrev cX6_fail : ByteArray := prog_8_method_5_code
def yX6_fail : MethodName := ⟨RX6, "fail", "(II)V"⟩
abbrev cX6_byteAt : ByteArray := prog_8_method_6_code
def yX6_byteAt : MethodName := ⟨RX6, "byteAt", "(I)I"⟩
abbrev cX6_skipBlanks : ByteArray := prog_8_method_7_code
def yX6_skipBlanks : MethodName := ⟨RX6, "skipBlanks", "()V"⟩
abbrev cX6_isAtEnd : ByteArray := prog_8_method_8_code
def yX6_isAtEnd : MethodName := ⟨RX6, "isAtEnd", "()Z"⟩
abbrev cX6_isLetterAt : ByteArray := prog_8_method_9_code
def yX6_isLetterAt : MethodName := ⟨RX6, "isLetterAt", "(I)Z"⟩
abbrev cX6_isFigureAt : ByteArray := prog_8_method_10_code
def yX6_isFigureAt : MethodName := ⟨RX6, "isFigureAt", "(I)Z"⟩
abbrev cX6_takeWord : ByteArray := prog_8_method_11_code
def yX6_takeWord : MethodName := ⟨RX6, "takeWord", "(Ljava/lang/String;)Z"⟩
abbrev cX6_needWord : ByteArray := prog_8_method_12_code
def yX6_needWord : MethodName := ⟨RX6, "needWord", "(Ljava/lang/String;)V"⟩
abbrev cX6_needSemicolon : ByteArray := prog_8_method_13_code
def yX6_needSemicolon : MethodName := ⟨RX6, "needSemicolon", "()V"⟩
abbrev cX6_needNumber : ByteArray := prog_8_method_14_code
def yX6_needNumber : MethodName := ⟨RX6, "needNumber", "(II)I"⟩
def RX7 : String := "LastPlace"
def TX7 : u_T := fun k => match k with
  | 0 => ("LastPlace", "text", "LLastPlace$Text;", true)
  | 1 => ("LastPlace", "streets", "[LLastPlace$Street;", true)
  | 2 => ("LastPlace", "ways", "[LLastPlace$BestWay;", true)
  | 3 => ("LastPlace", "draft", "LLastPlace$Street;", true)
  | 4 => ("LastPlace", "rules", "[LLastPlace$Rule;", true)
  | 5 => ("LastPlace", "ruleCount", "I", false)
  | 6 => ("LastPlace", "latestFault", "I", false)
  | 7 => ("LastPlace", "now", "LLastPlace$Scene;", true)
  | 8 => ("LastPlace", "images", "[LLastPlace$Scene;", true)
  | 9 => ("LastPlace", "kept", "[Z", true)
  | 10 => ("LastPlace", "reckoner", "LLastPlace$Reckoner;", true)
  | _ => ("LastPlace", "parking", "LLastPlace$Parking;", true)
def tyX7 : Nat → FieldType := fun k => match k with
  | 0 => .object "LastPlace$Text"
  | 1 => .array (.object "LastPlace$Street")
  | 2 => .array (.object "LastPlace$BestWay")
  | 3 => .object "LastPlace$Street"
  | 4 => .array (.object "LastPlace$Rule")
  | 5 => .int
  | 6 => .int
  | 7 => .object "LastPlace$Scene"
  | 8 => .array (.object "LastPlace$Scene")
  | 9 => .array .boolean
  | 10 => .object "LastPlace$Reckoner"
  | _ => .object "LastPlace$Parking"
theorem nmX7 : ∀ a, a < 12 → ∀ b, b < 12 → a ≠ b → (TX7 a).2.1 ≠ (TX7 b).2.1 := by decide +kernel
theorem tyX7_ok : ∀ k, k < 12 → parseFieldDescriptor (TX7 k).2.2.1 = some (tyX7 k) := by decide +kernel
abbrev cX7_init : ByteArray := prog_1_method_1_code
def yX7_init : MethodName := ⟨RX7, "<init>", "()V"⟩
abbrev cX7_feed : ByteArray := prog_1_method_2_code
def yX7_feed : MethodName := ⟨RX7, "feed", "(IJ)I"⟩
abbrev cX7_street : ByteArray := prog_1_method_3_code
def yX7_street : MethodName := ⟨RX7, "street", "(I)I"⟩
abbrev cX7_fault : ByteArray := prog_1_method_4_code
def yX7_fault : MethodName := ⟨RX7, "fault", "()I"⟩
abbrev cX7_told : ByteArray := prog_1_method_5_code
def yX7_told : MethodName := ⟨RX7, "told", "(II)I"⟩
abbrev cX7_door : ByteArray := prog_1_method_6_code
def yX7_door : MethodName := ⟨RX7, "door", "(III)I"⟩
abbrev cX7_chance : ByteArray := prog_1_method_7_code
def yX7_chance : MethodName := ⟨RX7, "chance", "(IIZ)I"⟩
abbrev cX7_taking : ByteArray := prog_1_method_8_code
def yX7_taking : MethodName := ⟨RX7, "taking", "(III)I"⟩
abbrev cX7_worth : ByteArray := prog_1_method_9_code
def yX7_worth : MethodName := ⟨RX7, "worth", "(IIII)I"⟩
abbrev cX7_goingOn : ByteArray := prog_1_method_10_code
def yX7_goingOn : MethodName := ⟨RX7, "goingOn", "(IIII)I"⟩
abbrev cX7_takes : ByteArray := prog_1_method_11_code
def yX7_takes : MethodName := ⟨RX7, "takes", "(IIII)I"⟩
abbrev cX7_start : ByteArray := prog_1_method_12_code
def yX7_start : MethodName := ⟨RX7, "start", "(II)I"⟩
abbrev cX7_end : ByteArray := prog_1_method_13_code
def yX7_end : MethodName := ⟨RX7, "end", "(III)I"⟩
abbrev cX7_bar : ByteArray := prog_1_method_14_code
def yX7_bar : MethodName := ⟨RX7, "bar", "(II)I"⟩
abbrev cX7_which : ByteArray := prog_1_method_15_code
def yX7_which : MethodName := ⟨RX7, "which", "(II)I"⟩
abbrev cX7_rule : ByteArray := prog_1_method_16_code
def yX7_rule : MethodName := ⟨RX7, "rule", "()I"⟩
abbrev cX7_mean : ByteArray := prog_1_method_17_code
def yX7_mean : MethodName := ⟨RX7, "mean", "(III)I"⟩
abbrev cX7_saw : ByteArray := prog_1_method_18_code
def yX7_saw : MethodName := ⟨RX7, "saw", "(Z)I"⟩
abbrev cX7_clear : ByteArray := prog_1_method_19_code
def yX7_clear : MethodName := ⟨RX7, "clear", "()I"⟩
abbrev cX7_judge : ByteArray := prog_1_method_20_code
def yX7_judge : MethodName := ⟨RX7, "judge", "(IIZ)I"⟩
abbrev cX7_thought : ByteArray := prog_1_method_21_code
def yX7_thought : MethodName := ⟨RX7, "thought", "(II)I"⟩
abbrev cX7_waits : ByteArray := prog_1_method_22_code
def yX7_waits : MethodName := ⟨RX7, "waits", "(IIIIIII)I"⟩
abbrev cX7_boy : ByteArray := prog_1_method_23_code
def yX7_boy : MethodName := ⟨RX7, "boy", "(I)I"⟩
abbrev cX7_car : ByteArray := prog_1_method_24_code
def yX7_car : MethodName := ⟨RX7, "car", "(II)I"⟩
abbrev cX7_steer : ByteArray := prog_1_method_25_code
def yX7_steer : MethodName := ⟨RX7, "steer", "(II)I"⟩
abbrev cX7_parks : ByteArray := prog_1_method_26_code
def yX7_parks : MethodName := ⟨RX7, "parks", "(IIII)I"⟩
abbrev cX7_rests : ByteArray := prog_1_method_27_code
def yX7_rests : MethodName := ⟨RX7, "rests", "(II)I"⟩
abbrev cX7_turn : ByteArray := prog_1_method_28_code
def yX7_turn : MethodName := ⟨RX7, "turn", "(II)I"⟩
abbrev cX7_allRests : ByteArray := prog_1_method_29_code
def yX7_allRests : MethodName := ⟨RX7, "allRests", "(II)I"⟩
abbrev cX7_lost : ByteArray := prog_1_method_30_code
def yX7_lost : MethodName := ⟨RX7, "lost", "(II)I"⟩
abbrev cX7_mend : ByteArray := prog_1_method_31_code
def yX7_mend : MethodName := ⟨RX7, "mend", "(III)I"⟩
abbrev cX7_seed : ByteArray := prog_1_method_32_code
def yX7_seed : MethodName := ⟨RX7, "seed", "(I)I"⟩
abbrev cX7_evening : ByteArray := prog_1_method_33_code
def yX7_evening : MethodName := ⟨RX7, "evening", "(III)I"⟩
abbrev cX7_count : ByteArray := prog_1_method_34_code
def yX7_count : MethodName := ⟨RX7, "count", "(I)I"⟩
abbrev cX7_keep : ByteArray := prog_1_method_35_code
def yX7_keep : MethodName := ⟨RX7, "keep", "(I)I"⟩
abbrev cX7_goBack : ByteArray := prog_1_method_36_code
def yX7_goBack : MethodName := ⟨RX7, "goBack", "(I)I"⟩
abbrev cX7_isIn : ByteArray := prog_1_method_37_code
def yX7_isIn : MethodName := ⟨RX7, "isIn", "(III)Z"⟩
abbrev cX7_isStreet : ByteArray := prog_1_method_38_code
def yX7_isStreet : MethodName := ⟨RX7, "isStreet", "(I)Z"⟩
abbrev cX7_isDoor : ByteArray := prog_1_method_39_code
def yX7_isDoor : MethodName := ⟨RX7, "isDoor", "(II)Z"⟩
abbrev cX7_isRound : ByteArray := prog_1_method_40_code
def yX7_isRound : MethodName := ⟨RX7, "isRound", "(II)Z"⟩
abbrev cX7_isRule : ByteArray := prog_1_method_41_code
def yX7_isRule : MethodName := ⟨RX7, "isRule", "(I)Z"⟩
abbrev cX7_isCar : ByteArray := prog_1_method_42_code
def yX7_isCar : MethodName := ⟨RX7, "isCar", "(I)Z"⟩
abbrev cX7_isSet : ByteArray := prog_1_method_43_code
def yX7_isSet : MethodName := ⟨RX7, "isSet", "(II)Z"⟩
abbrev cX7_refuseSight : ByteArray := prog_1_method_44_code
def yX7_refuseSight : MethodName := ⟨RX7, "refuseSight", "(IIII)I"⟩
abbrev cX7_refuseSet : ByteArray := prog_1_method_45_code
def yX7_refuseSet : MethodName := ⟨RX7, "refuseSet", "(II)I"⟩
abbrev cX7_closeText : ByteArray := prog_1_method_46_code
def yX7_closeText : MethodName := ⟨RX7, "closeText", "()I"⟩
abbrev cX7_mixed : ByteArray := prog_1_method_47_code
def yX7_mixed : MethodName := ⟨RX7, "mixed", "(III)I"⟩
def RX8 : String := "LastPlaceModel"
def TX8 : u_T := fun k => match k with
  | 0 => ("LastPlaceModel", "doorMany", "[I", true)
  | 1 => ("LastPlaceModel", "frees", "[I", true)
  | 2 => ("LastPlaceModel", "prices", "[I", true)
  | 3 => ("LastPlaceModel", "singles", "[I", true)
  | 4 => ("LastPlaceModel", "text", "[I", true)
  | 5 => ("LastPlaceModel", "texted", "I", false)
  | 6 => ("LastPlaceModel", "faultPlace", "I", false)
  | 7 => ("LastPlaceModel", "at0", "I", false)
  | 8 => ("LastPlaceModel", "word", "J", false)
  | 9 => ("LastPlaceModel", "wordEnd", "I", false)
  | 10 => ("LastPlaceModel", "number", "I", false)
  | 11 => ("LastPlaceModel", "numberAt", "I", false)
  | 12 => ("LastPlaceModel", "readDoors", "I", false)
  | 13 => ("LastPlaceModel", "readFree", "[I", true)
  | 14 => ("LastPlaceModel", "readPrice", "[I", true)
  | 15 => ("LastPlaceModel", "readSingle", "[I", true)
  | 16 => ("LastPlaceModel", "toldSet", "I", false)
  | 17 => ("LastPlaceModel", "ons", "[I", true)
  | 18 => ("LastPlaceModel", "worths", "[I", true)
  | 19 => ("LastPlaceModel", "starts", "[I", true)
  | 20 => ("LastPlaceModel", "ends", "[I", true)
  | 21 => ("LastPlaceModel", "goesRound", "[Z", true)
  | 22 => ("LastPlaceModel", "begin", "[I", true)
  | 23 => ("LastPlaceModel", "rules", "I", false)
  | 24 => ("LastPlaceModel", "barMany", "[I", true)
  | 25 => ("LastPlaceModel", "barSeen", "[I", true)
  | 26 => ("LastPlaceModel", "barFrom", "[I", true)
  | 27 => ("LastPlaceModel", "ruleRounds", "[I", true)
  | 28 => ("LastPlaceModel", "follows", "[I", true)
  | 29 => ("LastPlaceModel", "before", "[I", true)
  | 30 => ("LastPlaceModel", "rowMany", "I", false)
  | 31 => ("LastPlaceModel", "row", "[Z", true)
  | 32 => ("LastPlaceModel", "boys", "[I", true)
  | 33 => ("LastPlaceModel", "boysNext", "[I", true)
  | 34 => ("LastPlaceModel", "cars", "I", false)
  | 35 => ("LastPlaceModel", "walks", "[I", true)
  | 36 => ("LastPlaceModel", "bars", "[I", true)
  | 37 => ("LastPlaceModel", "dearFrom", "I", false)
  | 38 => ("LastPlaceModel", "dearBy", "I", false)
  | 39 => ("LastPlaceModel", "doorsOf", "[I", true)
  | 40 => ("LastPlaceModel", "wasBars", "[I", true)
  | 41 => ("LastPlaceModel", "seed", "I", false)
  | 42 => ("LastPlaceModel", "isKept", "[Z", true)
  | _ => ("LastPlaceModel", "images", "[I", true)
def tyX8 : Nat → FieldType := fun k => match k with
  | 0 => .array .int
  | 1 => .array .int
  | 2 => .array .int
  | 3 => .array .int
  | 4 => .array .int
  | 5 => .int
  | 6 => .int
  | 7 => .int
  | 8 => .long
  | 9 => .int
  | 10 => .int
  | 11 => .int
  | 12 => .int
  | 13 => .array .int
  | 14 => .array .int
  | 15 => .array .int
  | 16 => .int
  | 17 => .array .int
  | 18 => .array .int
  | 19 => .array .int
  | 20 => .array .int
  | 21 => .array .boolean
  | 22 => .array .int
  | 23 => .int
  | 24 => .array .int
  | 25 => .array .int
  | 26 => .array .int
  | 27 => .array .int
  | 28 => .array .int
  | 29 => .array .int
  | 30 => .int
  | 31 => .array .boolean
  | 32 => .array .int
  | 33 => .array .int
  | 34 => .int
  | 35 => .array .int
  | 36 => .array .int
  | 37 => .int
  | 38 => .int
  | 39 => .array .int
  | 40 => .array .int
  | 41 => .int
  | 42 => .array .boolean
  | _ => .array .int
theorem nmX8 : ∀ a, a < 44 → ∀ b, b < 44 → a ≠ b → (TX8 a).2.1 ≠ (TX8 b).2.1 := by decide +kernel
theorem tyX8_ok : ∀ k, k < 44 → parseFieldDescriptor (TX8 k).2.2.1 = some (tyX8 k) := by decide +kernel
abbrev cX8_init : ByteArray := prog_10_method_1_code
def yX8_init : MethodName := ⟨RX8, "<init>", "()V"⟩
abbrev cX8_in : ByteArray := prog_10_method_3_code
def yX8_in : MethodName := ⟨RX8, "in", "(JJJ)Z"⟩
abbrev cX8_isStreet : ByteArray := prog_10_method_4_code
def yX8_isStreet : MethodName := ⟨RX8, "isStreet", "(I)Z"⟩
abbrev cX8_isDoor : ByteArray := prog_10_method_5_code
def yX8_isDoor : MethodName := ⟨RX8, "isDoor", "(II)Z"⟩
abbrev cX8_of : ByteArray := prog_10_method_6_code
def yX8_of : MethodName := ⟨RX8, "of", "(II)I"⟩
abbrev cX8_feed : ByteArray := prog_10_method_7_code
def yX8_feed : MethodName := ⟨RX8, "feed", "(IJ)I"⟩
abbrev cX8_here : ByteArray := prog_10_method_8_code
def yX8_here : MethodName := ⟨RX8, "here", "()I"⟩
abbrev cX8_fails : ByteArray := prog_10_method_9_code
def yX8_fails : MethodName := ⟨RX8, "fails", "(II)I"⟩
abbrev cX8_readWord : ByteArray := prog_10_method_10_code
def yX8_readWord : MethodName := ⟨RX8, "readWord", "()V"⟩
abbrev cX8_code : ByteArray := prog_10_method_11_code
def yX8_code : MethodName := ⟨RX8, "code", "(III)J"⟩
abbrev cX8_longer : ByteArray := prog_10_method_12_code
def yX8_longer : MethodName := ⟨RX8, "longer", "(JI)J"⟩
abbrev cX8_longest : ByteArray := prog_10_method_13_code
def yX8_longest : MethodName := ⟨RX8, "longest", "(JII)J"⟩
abbrev cX8_clauseOf : ByteArray := prog_10_method_14_code
def yX8_clauseOf : MethodName := ⟨RX8, "clauseOf", "()I"⟩
abbrev cX8_needs : ByteArray := prog_10_method_15_code
def yX8_needs : MethodName := ⟨RX8, "needs", "(J)I"⟩
abbrev cX8_takeFigures : ByteArray := prog_10_method_16_code
def yX8_takeFigures : MethodName := ⟨RX8, "takeFigures", "(IIIZ)I"⟩
abbrev cX8_takeNumber : ByteArray := prog_10_method_17_code
def yX8_takeNumber : MethodName := ⟨RX8, "takeNumber", "(II)I"⟩
abbrev cX8_takeSigned : ByteArray := prog_10_method_18_code
def yX8_takeSigned : MethodName := ⟨RX8, "takeSigned", "(I)I"⟩
abbrev cX8_bare : ByteArray := prog_10_method_19_code
def yX8_bare : MethodName := ⟨RX8, "bare", "()V"⟩
abbrev cX8_takeDoors : ByteArray := prog_10_method_20_code
def yX8_takeDoors : MethodName := ⟨RX8, "takeDoors", "()I"⟩
abbrev cX8_takeSingle : ByteArray := prog_10_method_21_code
def yX8_takeSingle : MethodName := ⟨RX8, "takeSingle", "(I)I"⟩
abbrev cX8_takeClause : ByteArray := prog_10_method_22_code
def yX8_takeClause : MethodName := ⟨RX8, "takeClause", "()I"⟩
abbrev cX8_street : ByteArray := prog_10_method_23_code
def yX8_street : MethodName := ⟨RX8, "street", "(I)I"⟩
abbrev cX8_fault : ByteArray := prog_10_method_24_code
def yX8_fault : MethodName := ⟨RX8, "fault", "()I"⟩
abbrev cX8_told : ByteArray := prog_10_method_25_code
def yX8_told : MethodName := ⟨RX8, "told", "(II)I"⟩
abbrev cX8_door : ByteArray := prog_10_method_26_code
def yX8_door : MethodName := ⟨RX8, "door", "(III)I"⟩
abbrev cX8_chanceOf : ByteArray := prog_10_method_27_code
def yX8_chanceOf : MethodName := ⟨RX8, "chanceOf", "(IIZ)I"⟩
abbrev cX8_chance : ByteArray := prog_10_method_28_code
def yX8_chance : MethodName := ⟨RX8, "chance", "(IIZ)I"⟩
abbrev cX8_tick : ByteArray := prog_10_method_29_code
def yX8_tick : MethodName := ⟨RX8, "tick", "(III)I"⟩
abbrev cX8_lateAt : ByteArray := prog_10_method_30_code
def yX8_lateAt : MethodName := ⟨RX8, "lateAt", "(II)I"⟩
abbrev cX8_takingBy : ByteArray := prog_10_method_31_code
def yX8_takingBy : MethodName := ⟨RX8, "takingBy", "(IIII)I"⟩
abbrev cX8_takingOf : ByteArray := prog_10_method_32_code
def yX8_takingOf : MethodName := ⟨RX8, "takingOf", "(III)I"⟩
abbrev cX8_garageOf : ByteArray := prog_10_method_33_code
def yX8_garageOf : MethodName := ⟨RX8, "garageOf", "(II)I"⟩
abbrev cX8_isRound : ByteArray := prog_10_method_34_code
def yX8_isRound : MethodName := ⟨RX8, "isRound", "(II)Z"⟩
abbrev cX8_taking : ByteArray := prog_10_method_35_code
def yX8_taking : MethodName := ⟨RX8, "taking", "(III)I"⟩
abbrev cX8_at : ByteArray := prog_10_method_36_code
def yX8_at : MethodName := ⟨RX8, "at", "(III)I"⟩
abbrev cX8_mixed : ByteArray := prog_10_method_37_code
def yX8_mixed : MethodName := ⟨RX8, "mixed", "(III)I"⟩
abbrev cX8_seen : ByteArray := prog_10_method_38_code
def yX8_seen : MethodName := ⟨RX8, "seen", "(II)I"⟩
abbrev cX8_on : ByteArray := prog_10_method_39_code
def yX8_on : MethodName := ⟨RX8, "on", "(IIII)I"⟩
abbrev cX8_findRound : ByteArray := prog_10_method_40_code
def yX8_findRound : MethodName := ⟨RX8, "findRound", "(II)V"⟩
abbrev cX8_startOf : ByteArray := prog_10_method_41_code
def yX8_startOf : MethodName := ⟨RX8, "startOf", "(II)I"⟩
abbrev cX8_findWay : ByteArray := prog_10_method_42_code
def yX8_findWay : MethodName := ⟨RX8, "findWay", "(I)V"⟩
abbrev cX8_isSight : ByteArray := prog_10_method_43_code
def yX8_isSight : MethodName := ⟨RX8, "isSight", "(III)Z"⟩
abbrev cX8_worth : ByteArray := prog_10_method_44_code
def yX8_worth : MethodName := ⟨RX8, "worth", "(IIII)I"⟩
abbrev cX8_goingOn : ByteArray := prog_10_method_45_code
def yX8_goingOn : MethodName := ⟨RX8, "goingOn", "(IIII)I"⟩
abbrev cX8_isTaking : ByteArray := prog_10_method_46_code
def yX8_isTaking : MethodName := ⟨RX8, "isTaking", "(IIII)Z"⟩
abbrev cX8_takes : ByteArray := prog_10_method_47_code
def yX8_takes : MethodName := ⟨RX8, "takes", "(IIII)I"⟩
abbrev cX8_start : ByteArray := prog_10_method_48_code
def yX8_start : MethodName := ⟨RX8, "start", "(II)I"⟩
abbrev cX8_end : ByteArray := prog_10_method_49_code
def yX8_end : MethodName := ⟨RX8, "end", "(III)I"⟩
abbrev cX8_bar : ByteArray := prog_10_method_50_code
def yX8_bar : MethodName := ⟨RX8, "bar", "(II)I"⟩
abbrev cX8_which : ByteArray := prog_10_method_51_code
def yX8_which : MethodName := ⟨RX8, "which", "(II)I"⟩
abbrev cX8_takeRule : ByteArray := prog_10_method_52_code
def yX8_takeRule : MethodName := ⟨RX8, "takeRule", "()I"⟩
abbrev cX8_takeSeen : ByteArray := prog_10_method_53_code
def yX8_takeSeen : MethodName := ⟨RX8, "takeSeen", "(J)I"⟩
abbrev cX8_rule : ByteArray := prog_10_method_54_code
def yX8_rule : MethodName := ⟨RX8, "rule", "()I"⟩
abbrev cX8_isRule : ByteArray := prog_10_method_55_code
def yX8_isRule : MethodName := ⟨RX8, "isRule", "(I)Z"⟩
abbrev cX8_isFor : ByteArray := prog_10_method_56_code
def yX8_isFor : MethodName := ⟨RX8, "isFor", "(III)Z"⟩
abbrev cX8_isRoundBy : ByteArray := prog_10_method_57_code
def yX8_isRoundBy : MethodName := ⟨RX8, "isRoundBy", "(III)Z"⟩
abbrev cX8_byTaking : ByteArray := prog_10_method_58_code
def yX8_byTaking : MethodName := ⟨RX8, "byTaking", "(IIII)I"⟩
abbrev cX8_byGarage : ByteArray := prog_10_method_59_code
def yX8_byGarage : MethodName := ⟨RX8, "byGarage", "(III)I"⟩
abbrev cX8_meanOf : ByteArray := prog_10_method_60_code
def yX8_meanOf : MethodName := ⟨RX8, "meanOf", "(III)I"⟩
abbrev cX8_mean : ByteArray := prog_10_method_61_code
def yX8_mean : MethodName := ⟨RX8, "mean", "(III)I"⟩
abbrev cX8_saw : ByteArray := prog_10_method_62_code
def yX8_saw : MethodName := ⟨RX8, "saw", "(Z)I"⟩
abbrev cX8_clear : ByteArray := prog_10_method_63_code
def yX8_clear : MethodName := ⟨RX8, "clear", "()I"⟩
abbrev cX8_judge : ByteArray := prog_10_method_64_code
def yX8_judge : MethodName := ⟨RX8, "judge", "(IIZ)I"⟩
abbrev cX8_thought : ByteArray := prog_10_method_65_code
def yX8_thought : MethodName := ⟨RX8, "thought", "(II)I"⟩
abbrev cX8_waits : ByteArray := prog_10_method_66_code
def yX8_waits : MethodName := ⟨RX8, "waits", "(IIIIIII)I"⟩
abbrev cX8_boy : ByteArray := prog_10_method_67_code
def yX8_boy : MethodName := ⟨RX8, "boy", "(I)I"⟩
abbrev cX8_car : ByteArray := prog_10_method_68_code
def yX8_car : MethodName := ⟨RX8, "car", "(II)I"⟩
abbrev cX8_isCar : ByteArray := prog_10_method_69_code
def yX8_isCar : MethodName := ⟨RX8, "isCar", "(I)Z"⟩
abbrev cX8_steer : ByteArray := prog_10_method_70_code
def yX8_steer : MethodName := ⟨RX8, "steer", "(II)I"⟩
abbrev cX8_isSet : ByteArray := prog_10_method_71_code
def yX8_isSet : MethodName := ⟨RX8, "isSet", "(II)Z"⟩
abbrev cX8_costAt : ByteArray := prog_10_method_72_code
def yX8_costAt : MethodName := ⟨RX8, "costAt", "(III)I"⟩
abbrev cX8_parkAll : ByteArray := prog_10_method_73_code
def yX8_parkAll : MethodName := ⟨RX8, "parkAll", "(II)V"⟩
abbrev cX8_costOf : ByteArray := prog_10_method_74_code
def yX8_costOf : MethodName := ⟨RX8, "costOf", "(III)I"⟩
abbrev cX8_allCosts : ByteArray := prog_10_method_75_code
def yX8_allCosts : MethodName := ⟨RX8, "allCosts", "(II)I"⟩
abbrev cX8_parks : ByteArray := prog_10_method_76_code
def yX8_parks : MethodName := ⟨RX8, "parks", "(IIII)I"⟩
abbrev cX8_bestBar : ByteArray := prog_10_method_77_code
def yX8_bestBar : MethodName := ⟨RX8, "bestBar", "(III)I"⟩
abbrev cX8_isAtRest : ByteArray := prog_10_method_78_code
def yX8_isAtRest : MethodName := ⟨RX8, "isAtRest", "(II)Z"⟩
abbrev cX8_rests : ByteArray := prog_10_method_79_code
def yX8_rests : MethodName := ⟨RX8, "rests", "(II)I"⟩
abbrev cX8_turnAll : ByteArray := prog_10_method_80_code
def yX8_turnAll : MethodName := ⟨RX8, "turnAll", "(II)I"⟩
abbrev cX8_turn : ByteArray := prog_10_method_81_code
def yX8_turn : MethodName := ⟨RX8, "turn", "(II)I"⟩
abbrev cX8_holdBars : ByteArray := prog_10_method_82_code
def yX8_holdBars : MethodName := ⟨RX8, "holdBars", "()V"⟩
abbrev cX8_putBars : ByteArray := prog_10_method_83_code
def yX8_putBars : MethodName := ⟨RX8, "putBars", "()V"⟩
abbrev cX8_allRests : ByteArray := prog_10_method_84_code
def yX8_allRests : MethodName := ⟨RX8, "allRests", "(II)I"⟩
abbrev cX8_leastAll : ByteArray := prog_10_method_85_code
def yX8_leastAll : MethodName := ⟨RX8, "leastAll", "(II)I"⟩
abbrev cX8_canOne : ByteArray := prog_10_method_86_code
def yX8_canOne : MethodName := ⟨RX8, "canOne", "(II)Z"⟩
abbrev cX8_areApart : ByteArray := prog_10_method_87_code
def yX8_areApart : MethodName := ⟨RX8, "areApart", "(II)Z"⟩
abbrev cX8_canAll : ByteArray := prog_10_method_88_code
def yX8_canAll : MethodName := ⟨RX8, "canAll", "(IIIII)Z"⟩
abbrev cX8_sumAll : ByteArray := prog_10_method_89_code
def yX8_sumAll : MethodName := ⟨RX8, "sumAll", "(IIIII)I"⟩
abbrev cX8_lost : ByteArray := prog_10_method_90_code
def yX8_lost : MethodName := ⟨RX8, "lost", "(II)I"⟩
abbrev cX8_mend : ByteArray := prog_10_method_91_code
def yX8_mend : MethodName := ⟨RX8, "mend", "(III)I"⟩
abbrev cX8_seed : ByteArray := prog_10_method_92_code
def yX8_seed : MethodName := ⟨RX8, "seed", "(I)I"⟩
abbrev cX8_draw : ByteArray := prog_10_method_93_code
def yX8_draw : MethodName := ⟨RX8, "draw", "()I"⟩
abbrev cX8_drive : ByteArray := prog_10_method_94_code
def yX8_drive : MethodName := ⟨RX8, "drive", "(II)I"⟩
abbrev cX8_evening : ByteArray := prog_10_method_95_code
def yX8_evening : MethodName := ⟨RX8, "evening", "(III)I"⟩
abbrev cX8_count : ByteArray := prog_10_method_96_code
def yX8_count : MethodName := ⟨RX8, "count", "(I)I"⟩
abbrev cX8_keep : ByteArray := prog_10_method_97_code
def yX8_keep : MethodName := ⟨RX8, "keep", "(I)I"⟩
abbrev cX8_goBack : ByteArray := prog_10_method_98_code
def yX8_goBack : MethodName := ⟨RX8, "goBack", "(I)I"⟩
def RJ6 : String := "java/lang/Integer"
abbrev cJ6_bitCount_0f7a4 : ByteArray := prog_11_method_49_code
def yJ6_bitCount_0f7a4 : MethodName := ⟨RJ6, "bitCount", "(I)I"⟩
def RJ9 : String := "java/lang/Math"
abbrev cJ9_max_7cf53 : ByteArray := prog_12_method_65_code
def yJ9_max_7cf53 : MethodName := ⟨RJ9, "max", "(II)I"⟩
abbrev cJ9_max_f86c9 : ByteArray := prog_12_method_66_code
def yJ9_max_f86c9 : MethodName := ⟨RJ9, "max", "(JJ)J"⟩
abbrev cJ9_min_7cf53 : ByteArray := prog_12_method_69_code
def yJ9_min_7cf53 : MethodName := ⟨RJ9, "min", "(II)I"⟩
def RJ0 : String := "java/lang/String"
abbrev cJ0_length_8abf5 : ByteArray := prog_13_method_54_code
def yJ0_length_8abf5 : MethodName := ⟨RJ0, "length", "()I"⟩
abbrev cJ0_charAt_5068e : ByteArray := prog_13_method_56_code
def yJ0_charAt_5068e : MethodName := ⟨RJ0, "charAt", "(I)C"⟩
abbrev cJ0_coder_7d493 : ByteArray := prog_13_method_152_code
def yJ0_coder_7d493 : MethodName := ⟨RJ0, "coder", "()B"⟩
abbrev cJ0_isLatin1_aae02 : ByteArray := prog_13_method_154_code
def yJ0_isLatin1_aae02 : MethodName := ⟨RJ0, "isLatin1", "()Z"⟩
abbrev cJ0_checkIndex_df160 : ByteArray := prog_13_method_155_code
def yJ0_checkIndex_df160 : MethodName := ⟨RJ0, "checkIndex", "(II)V"⟩
def RJ1 : String := "java/lang/StringLatin1"
abbrev cJ1_charAt_3b067 : ByteArray := prog_14_method_2_code
def yJ1_charAt_3b067 : MethodName := ⟨RJ1, "charAt", "([BI)C"⟩
def RJ2 : String := "java/lang/StringUTF16"
abbrev cJ2_getChar_3b067 : ByteArray := prog_15_method_5_code
def yJ2_getChar_3b067 : MethodName := ⟨RJ2, "getChar", "([BI)C"⟩
abbrev cJ2_length_9d52b : ByteArray := prog_15_method_6_code
def yJ2_length_9d52b : MethodName := ⟨RJ2, "length", "([B)I"⟩
abbrev cJ2_charAt_3b067 : ByteArray := prog_15_method_83_code
def yJ2_charAt_3b067 : MethodName := ⟨RJ2, "charAt", "([BI)C"⟩
abbrev cJ2_checkIndex_2214a : ByteArray := prog_15_method_91_code
def yJ2_checkIndex_2214a : MethodName := ⟨RJ2, "checkIndex", "(I[B)V"⟩
def RJ10 : String := "java/lang/System"
def RJ3 : String := "jdk/internal/util/Preconditions"
abbrev cJ3_checkIndex_8e157 : ByteArray := prog_17_method_11_code
def yJ3_checkIndex_8e157 : MethodName := ⟨RJ3, "checkIndex", "(IILjava/util/function/BiFunction;)I"⟩
abbrev classes : List vw_C := [(RX0, TX0, 5), (RX1, TX1, 8), (RX2, TX2, 5), (RX3, TX3, 5), (RX4, TX4, 6), (RX5, TX5, 4), (RX6, TX6, 6), (RX7, TX7, 12), (RX8, TX8, 44)]
end
section
/-! one list of words for all methods; contracts; calls -/
def LW : List Cond := lw_tbl.filter goodWord
def WS (y : MethodName) (cc : ByteArray) (n : Nat) (ret : Option FieldType) : List Cond := Cond.code y cc n ret :: LW
theorem LWm {w : Cond} {i : Nat} (h : lw_tbl[i]? = some w) (hg : goodWord w = true) : w ∈ LW := List.mem_filter.mpr ⟨List.mem_of_getElem? h, hg⟩
theorem LW_all {ws : List Cond} (h : GoodIn lw_tbl ws) : ∀ w ∈ ws, w ∈ LW := by
  intro w hw
  obtain ⟨h1, h2⟩ := h w hw
  refine List.mem_filter.mpr ⟨h1, ?_⟩
  rcases h2 with h2 | ⟨ty, rfl⟩
  · cases w <;> first | rfl | exact h2
  · rfl
theorem LW_lw {args : Array Value} {s : State} (h : ∀ w ∈ lw_tbl, w.before args s = true) : ∀ w ∈ LW, w.before args s = true := fun w hw => h w (List.mem_filter.mp hw).1
theorem WS_ts {y : MethodName} {cc : ByteArray} {n : Nat} {ret : Option FieldType} {args : Array Value} {s : State} (h : (allAtoms (WS y cc n ret)).before args s = true) : ∀ w ∈ LW, w.before args s = true := fun w hw => atoms_spec h w (List.mem_cons_of_mem _ hw)
theorem gLW {y : MethodName} {cc : ByteArray} {n : Nat} {ret : Option FieldType} (hc : Cond.code y cc n ret ∈ LW) : GoodIn LW (WS y cc n ret) := by
  have h0 : ∀ w ∈ LW, w ∈ LW ∧ ((w.onTables && w.keeps) = true ∨ ∃ ty, w = .arrayClass ty) := fun w hw => ⟨hw, good_of_word (List.mem_filter.mp hw).2⟩
  intro w hw
  rcases List.mem_cons.mp hw with rfl | hw
  · exact h0 _ hc
  · exact h0 w hw
theorem gLWl {ws : List Cond} (h : ∀ w ∈ ws, w ∈ LW) : GoodIn LW ws := fun w hw => ⟨h w hw, good_of_word (List.mem_filter.mp (h w hw)).2⟩
theorem gV {own C : String} {idx : Nat} {y : MethodName} {cc : ByteArray} {n : Nat} {ret : Option FieldType} (h1 : Cond.methodLink own idx y ∈ LW) (h2 : Cond.instanceMethod y ∈ LW) (h3 : Cond.selects C y y ∈ LW) (h4 : Cond.initialized C ∈ LW) (h5 : Cond.code y cc n ret ∈ LW) : GoodIn LW (wsV own idx C y (WS y cc n ret)) := by
  intro w hw
  unfold wsV at hw
  rcases List.mem_append.mp hw with hw | hw
  · refine gLWl (ws := [Cond.methodLink own idx y, Cond.instanceMethod y, Cond.selects C y y, Cond.initialized C]) ?_ w hw
    intro v hv
    simp only [List.mem_cons, List.not_mem_nil, or_false] at hv
    rcases hv with rfl | rfl | rfl | rfl <;> assumption
  · exact gLW h5 w hw
theorem gS {own : String} {idx : Nat} {y : MethodName} {cc : ByteArray} {n : Nat} {ret : Option FieldType} (h1 : Cond.methodLink own idx y ∈ LW) (h2 : Cond.static y ∈ LW) (h4 : Cond.initialized y.cls ∈ LW) (h5 : Cond.code y cc n ret ∈ LW) : GoodIn LW (va_wsS own idx y (WS y cc n ret)) := by
  intro w hw
  unfold va_wsS at hw
  rcases List.mem_append.mp hw with hw | hw
  · refine gLWl (ws := [Cond.methodLink own idx y, Cond.static y, Cond.initialized y.cls]) ?_ w hw
    intro v hv
    simp only [List.mem_cons, List.not_mem_nil, or_false] at hv
    rcases hv with rfl | rfl | rfl <;> assumption
  · exact gLW h5 w hw
/-- the array classes, in a fixed order -/
def TY (k : Nat → ClassId) : List (ClassId × FieldType) := [(k 0, .byte), (k 1, .int), (k 2, .boolean), (k 3, .object "LastPlace$Street"), (k 4, .object "LastPlace$BestWay"), (k 5, .object "LastPlace$Rule"), (k 6, .object "LastPlace$Scene")]
def zNT (j : Nat) : Int32 := ([0, 0, 2, 1, 5, 30, 1, 10, 0, 200] : List Int32).getD j 0
def zMO (j : Nat) : Int32 := ([24, 50, 99, 99, 99, 200, 2, 60, 3, 999] : List Int32).getD j 0
def zFR (j : Nat) : Int32 := ([102, 114, 111, 109] : List Int32).getD j 0
/-- statics and the one string, apart from all that comes from lo on -/
def Zs (st : Nat → Nat) (lo : Nat) (U : State) (H : Heap) : Prop :=
  va_Z "LastPlace" "NOT_TOLD" "[I" (.ref (st 0)) (fun q => lo ≤ q) U H ∧ va_T .int (st 0) 10 (fun j => .int (zNT j)) (fun q => lo ≤ q) U H ∧
  va_Z "LastPlace" "MOST" "[I" (.ref (st 1)) (fun q => lo ≤ q) U H ∧ va_T .int (st 1) 10 (fun j => .int (zMO j)) (fun q => lo ≤ q) U H ∧
  va_Z "java/lang/String" "COMPACT_STRINGS" "Z" (.int 1) (fun q => lo ≤ q) U H ∧
  vk_R "LastPlace$Rule" 28 "from" (st 2) U ∧ va_O "java/lang/String" (st 2) (fun q => lo ≤ q) U H ∧ va_OF "java/lang/String" "coder" "B" (.int 0) (st 2) (fun q => lo ≤ q) U H ∧ va_OF "java/lang/String" "value" "[B" (.ref (st 3)) (st 2) (fun q => lo ≤ q) U H ∧ va_T .byte (st 3) 4 (fun j => .int (zFR j)) (fun q => lo ≤ q) U H
theorem Zs.at {st : Nat → Nat} {lo : Nat} {s U : State} {A : Nat → Prop} {H : Heap} {locs : List Loc} (h : Zs st lo s s.heap) (hS : va_S A s.heap H locs) (hA : ∀ q, A q → lo ≤ q) (hU : U.heap = H) (hW : s.WarmedH U.vm) : Zs st lo U U.heap := by
  rw [hU]
  have hq : ∀ a : Nat, a < s.heap.size → ¬ (fun q => lo ≤ q) a → H[a]? = s.heap[a]? := fun a h1 h2 => hS.2.1 a h1 (fun h3 => h2 (hA a h3))
  obtain ⟨h1, h2, h3, h4, h5, h6, h7, h8, h9, h10⟩ := h
  exact ⟨(h1.kept hq).moved hW.alike, (h2.kept hq).moved hW.alike, (h3.kept hq).moved hW.alike, (h4.kept hq).moved hW.alike, (h5.kept hq).moved hW.alike, h6.warm hW, (h7.kept hq).moved hW.alike, (h8.kept hq).moved hW.alike, (h9.kept hq).moved hW.alike, (h10.kept hq).moved hW.alike⟩
theorem Zs.blind {st : Nat → Nat} {lo : Nat} {U V : State} (hv : V.vm = U.vm) (hh : V.heap = U.heap) (h : Zs st lo U U.heap) : Zs st lo V V.heap := by
  have hm : U.vm.Alike V.vm := by rw [hv]; exact Vm.Alike.refl U.vm
  rw [hh]
  obtain ⟨h1, h2, h3, h4, h5, h6, h7, h8, h9, h10⟩ := h
  exact ⟨h1.moved hm, h2.moved hm, h3.moved hm, h4.moved hm, h5.moved hm, h6.same hv, h7.moved hm, h8.moved hm, h9.moved hm, h10.moved hm⟩
/-- the state at a method's entry: its cells, the tables, the statics -/
def Wd (D : va_G) (k : Nat → ClassId) (st : Nat → Nat) (lo sz : Nat) (ws : va_W) (U : State) : Prop :=
  U.heap.size = sz ∧ lo ≤ sz ∧ va_P D classes ws U.heap ∧ va_K D classes (TY k) U ∧ va_D (fun q => lo ≤ q) ws ∧ Zs st lo U U.heap
theorem Wd.blind {D : va_G} {k : Nat → ClassId} {st : Nat → Nat} {lo sz : Nat} {ws : va_W} {av : List Value} : FrameBlind (va_Pc av (Wd D k st lo sz ws)) := by
  intro a U g mk q
  obtain ⟨q0, q1, q2, q3, q4, q5, q6⟩ := q
  exact ⟨q0, q1, q2, q3, va_K.moved (u := U) (U := U.calling g mk a) (Vm.Alike.refl U.vm) q4, q5, Zs.blind (U := U) (V := U.calling g mk a) rfl rfl q6⟩
theorem Wd.pre {D : va_G} {k : Nat → ClassId} {st : Nat → Nat} {lo : Nat} {ws : va_W} {s : State} {H : Heap} {A : Nat → Prop} {locs : List Loc} {av : List Value} (hS : va_S A s.heap H locs) (hA : ∀ q, A q → lo ≤ q) (hlo : lo ≤ s.heap.size) (hP : va_P D classes ws H) (hK : va_K D classes (TY k) s) (hD : va_D (fun q => lo ≤ q) ws) (hZ : Zs st lo s s.heap) : ∀ U : State, U.heap = H → s.WarmedH U.vm → va_Pc av (Wd D k st lo H.size ws) av.toArray U :=
  fun U hU hW => ⟨rfl, by rw [hU], Nat.le_trans hlo hS.1, by rw [hU]; exact hP, va_K.moved hW.alike hK, hD, hZ.at hS hA hU hW⟩
theorem va_Dsub {A : Nat → Prop} {ws wc : va_W} (hD : va_D A ws) (is : List Nat) (hn : va_nd is = true) (hs : is.map (fun i => ws[i]?) = wc.map some) : va_D A wc := hD.sub is hn hs
theorem fm_of {ws wc : va_W} (is : List Nat) (hs : is.map (fun i => ws[i]?) = wc.map some) : is.filterMap (fun i => ws[i]?) = wc := by
  have h : (is.map (fun i => ws[i]?)).filterMap id = (wc.map some).filterMap id := by rw [hs]
  simpa [List.filterMap_map, Function.comp_def] using h
/-- a contract of a method that changes nothing: int, long -/
def CRi (l : Launch) (D : va_G) (k : Nat → ClassId) (st : Nat → Nat) (lo : Nat) (y : MethodName) (cc : ByteArray) (n : Nat) (ret : Option FieldType) (rm : Room) (av : List Value) (ws : va_W) (post : Int32 → Prop) : Prop :=
  ∀ sz, Met l y (WS y cc n ret) rm (va_Pc av (Wd D k st lo sz ws)) (va_Qi (fun r (_ : Unit) => post r) (fun _ _ => True) (fun q => sz ≤ q)) 0 0 (fun q => sz ≤ q)
def CRl (l : Launch) (D : va_G) (k : Nat → ClassId) (st : Nat → Nat) (lo : Nat) (y : MethodName) (cc : ByteArray) (n : Nat) (ret : Option FieldType) (rm : Room) (av : List Value) (ws : va_W) (post : Int64 → Prop) : Prop :=
  ∀ sz, Met l y (WS y cc n ret) rm (va_Pc av (Wd D k st lo sz ws)) (va_Ql (fun r (_ : Unit) => post r) (fun _ _ => True) (fun q => sz ≤ q)) 0 0 (fun q => sz ≤ q)
/-- a contract of a method that may change all its cells: int, void -/
def CWi (l : Launch) (D : va_G) (k : Nat → ClassId) (st : Nat → Nat) (lo : Nat) (y : MethodName) (cc : ByteArray) (n : Nat) (ret : Option FieldType) (rm : Room) (mc ms : Nat) (av : List Value) (ws : va_W) {S : Type} (post : Int32 → S → Prop) (w1 : S → va_W) : Prop :=
  ∀ sz, Met l y (WS y cc n ret) rm (va_Pc av (Wd D k st lo sz ws)) (va_Qi post (fun u t => va_P D classes (w1 u) t.heap ∧ va_D (va_A ws sz) (w1 u)) (va_A ws sz)) mc ms (va_A ws sz)
def CWv (l : Launch) (D : va_G) (k : Nat → ClassId) (st : Nat → Nat) (lo : Nat) (y : MethodName) (cc : ByteArray) (n : Nat) (ret : Option FieldType) (rm : Room) (mc ms : Nat) (av : List Value) (ws : va_W) {S : Type} (post : S → Prop) (w1 : S → va_W) : Prop :=
  ∀ sz, Met l y (WS y cc n ret) rm (va_Pc av (Wd D k st lo sz ws)) (va_Qv post (fun u t => va_P D classes (w1 u) t.heap ∧ va_D (va_A ws sz) (w1 u)) (va_A ws sz)) mc ms (va_A ws sz)
section GL
variable {p : Program} {l : Launch} {e : Env} {R : Room} {s : State} {m : MethodId} {args : Array Value} {below : List Frame} {meth : Method} {c : Code} {H : Heap} {locs : List Loc} {cells slots : Nat} {Q : State → Prop} {pc : Nat} {ls : Array Slot} {rest st0 : List Value}
/-- another name of the number on top -/
theorem lv_ti {x y : Int32} (h : x = y) (k : W p l e R s m args below meth c H locs cells slots Q (F0 m pc ls (.int y :: rest))) : W p l e R s m args below meth c H locs cells slots Q (F0 m pc ls (.int x :: rest)) := h ▸ k
theorem lv_tl {x y : Int64} (h : x = y) (k : W p l e R s m args below meth c H locs cells slots Q (F0 m pc ls (.long y :: rest))) : W p l e R s m args below meth c H locs cells slots Q (F0 m pc ls (.long x :: rest)) := h ▸ k
theorem lv_tr {x y : Value} (h : x = y) (k : W p l e R s m args below meth c H locs cells slots Q (F0 m pc ls (y :: rest))) : W p l e R s m args below meth c H locs cells slots Q (F0 m pc ls (x :: rest)) := h ▸ k
/-- behind a call that changed nothing -/
theorem ro_i {D : va_G} {cl : List vw_C} {ws : va_W} {A0 : Nat → Prop} {H0 : Heap} {a : Array Value} {post : Int32 → Prop} (hr : va_Run p l e R s m args below meth c H locs cells slots 0 0 (F0 m pc ls st0) rest (va_Qi (fun r (_ : Unit) => post r) (fun _ _ => True) (fun q => H.size ≤ q) a) (fun q => H.size ≤ q)) (hS : va_S A0 H0 H locs) (hA : ∀ q, H0.size ≤ q → A0 q) (hP : va_P D cl ws H)
    (kk : ∀ (r : Int32) (H1 : Heap) (locs1 : List Loc), post r → va_P D cl ws H1 → va_S A0 H0 H1 locs1 → W p l e R s m args below meth c H1 locs1 cells slots Q (F0 m (pc + 3) ls (.int r :: rest))) : W p l e R s m args below meth c H locs cells slots Q (F0 m pc ls st0) := by
  refine va_calli hr hS (fun q h1 h2 => absurd h2 (Nat.not_le.mpr h1)) (fun q h => hA q (Nat.le_trans hS.1 h)) (fun r u t H1 locs1 ht hvm hw hB hz1 hk1 hS1 => ?_)
  exact kk r H1 locs1 hw (hP.kept (fun k q hq => hk1 q.1 ((hP k q hq).lt) (Nat.not_le.mpr ((hP k q hq).lt)))) hS1
theorem ro_l {D : va_G} {cl : List vw_C} {ws : va_W} {A0 : Nat → Prop} {H0 : Heap} {a : Array Value} {post : Int64 → Prop} (hr : va_Run p l e R s m args below meth c H locs cells slots 0 0 (F0 m pc ls st0) rest (va_Ql (fun r (_ : Unit) => post r) (fun _ _ => True) (fun q => H.size ≤ q) a) (fun q => H.size ≤ q)) (hS : va_S A0 H0 H locs) (hA : ∀ q, H0.size ≤ q → A0 q) (hP : va_P D cl ws H)
    (kk : ∀ (r : Int64) (H1 : Heap) (locs1 : List Loc), post r → va_P D cl ws H1 → va_S A0 H0 H1 locs1 → W p l e R s m args below meth c H1 locs1 cells slots Q (F0 m (pc + 3) ls (.long r :: rest))) : W p l e R s m args below meth c H locs cells slots Q (F0 m pc ls st0) := by
  refine va_calll hr hS (fun q h1 h2 => absurd h2 (Nat.not_le.mpr h1)) (fun q h => hA q (Nat.le_trans hS.1 h)) (fun r u t H1 locs1 ht hvm hw hB hz1 hk1 hS1 => ?_)
  exact kk r H1 locs1 hw (hP.kept (fun k q hq => hk1 q.1 ((hP k q hq).lt) (Nat.not_le.mpr ((hP k q hq).lt)))) hS1
/-- behind a call that changed its cells wc to w1 u -/
theorem rw_i {D : va_G} {cl : List vw_C} {ws wc wr : va_W} {A0 : Nat → Prop} {H0 : Heap} {a : Array Value} {S : Type} {post : Int32 → S → Prop} {w1 : S → va_W} {mc ms : Nat} (hr : va_Run p l e R s m args below meth c H locs cells slots mc ms (F0 m pc ls st0) rest (va_Qi post (fun u t => va_P D cl (w1 u) t.heap ∧ va_D (va_A wc H.size) (w1 u)) (va_A wc H.size) a) (va_A wc H.size)) (hS : va_S A0 H0 H locs) (hA : ∀ q, H0.size ≤ q → A0 q) (hP : va_P D cl ws H) (hD : va_D A0 ws) (isC isR : List Nat) (hC : isC.map (fun i => ws[i]?) = wc.map some) (hR : isR.map (fun i => ws[i]?) = wr.map some) (hn : va_nd isR = true) (hdis : ∀ i ∈ isR, i ∉ isC)
    (kk : ∀ (r : Int32) (u : S) (H1 : Heap) (locs1 : List Loc), post r u → va_P D cl (wr ++ w1 u) H1 → va_D A0 (wr ++ w1 u) → va_S A0 H0 H1 locs1 → W p l e R s m args below meth c H1 locs1 (cells + mc) (slots + ms) Q (F0 m (pc + 3) ls (.int r :: rest))) : W p l e R s m args below meth c H locs cells slots Q (F0 m pc ls st0) := by
  have hF := va_free (wc := wc) hD hS hA isC hC
  refine va_calli hr hS (fun q _ h => hF q h) hF (fun r u t H1 locs1 ht hvm hw hB hz1 hk1 hS1 => ?_)
  obtain ⟨hP1, hD1⟩ := hB
  rw [ht] at hP1
  obtain ⟨hP2, hD2⟩ := va_join (wr := wr) (w1 := w1 u) hP hD isC isR hC hR hn hdis hk1 hF hP1 hD1
  exact kk r u H1 locs1 hw hP2 hD2 hS1
theorem rw_v {D : va_G} {cl : List vw_C} {ws wc wr : va_W} {A0 : Nat → Prop} {H0 : Heap} {a : Array Value} {S : Type} {post : S → Prop} {w1 : S → va_W} {mc ms : Nat} (hr : va_Run p l e R s m args below meth c H locs cells slots mc ms (F0 m pc ls st0) rest (va_Qv post (fun u t => va_P D cl (w1 u) t.heap ∧ va_D (va_A wc H.size) (w1 u)) (va_A wc H.size) a) (va_A wc H.size)) (hS : va_S A0 H0 H locs) (hA : ∀ q, H0.size ≤ q → A0 q) (hP : va_P D cl ws H) (hD : va_D A0 ws) (isC isR : List Nat) (hC : isC.map (fun i => ws[i]?) = wc.map some) (hR : isR.map (fun i => ws[i]?) = wr.map some) (hn : va_nd isR = true) (hdis : ∀ i ∈ isR, i ∉ isC)
    (kk : ∀ (u : S) (H1 : Heap) (locs1 : List Loc), post u → va_P D cl (wr ++ w1 u) H1 → va_D A0 (wr ++ w1 u) → va_S A0 H0 H1 locs1 → W p l e R s m args below meth c H1 locs1 (cells + mc) (slots + ms) Q (F0 m (pc + 3) ls (rest))) : W p l e R s m args below meth c H locs cells slots Q (F0 m pc ls st0) := by
  have hF := va_free (wc := wc) hD hS hA isC hC
  refine va_callv hr hS (fun q _ h => hF q h) hF (fun u t H1 locs1 ht hvm hw hB hz1 hk1 hS1 => ?_)
  obtain ⟨hP1, hD1⟩ := hB
  rw [ht] at hP1
  obtain ⟨hP2, hD2⟩ := va_join (wr := wr) (w1 := w1 u) hP hD isC isR hC hR hn hdis hk1 hF hP1 hD1
  exact kk u H1 locs1 hw hP2 hD2 hS1
/-- the receiver and the start of a call -/
theorem pV {D : va_G} {k : Nat → ClassId} {st : Nat → Nat} {lo : Nat} {ws wc : va_W} {A : Nat → Prop} {b q0 ci : Nat} {q : vw_C} {fs As : List Value} (hS : va_S A s.heap H locs) (hA : ∀ q, A q → lo ≤ q) (hlo : lo ≤ s.heap.size) (hP : va_P D classes ws H) (hK : va_K D classes (TY k) s) (hD : va_D (fun q => lo ≤ q) ws) (hZ : Zs st lo s s.heap) (is : List Nat) (hn : va_nd is = true) (hs : is.map (fun i => ws[i]?) = wc.map some) (hc : classes[ci]? = some q) (he : wc[q0]? = some (b, .inr (ci, fs))) : PreV s H q.1 b (va_Pc (.ref b :: As) (Wd D k st lo H.size wc)) As :=
  ⟨Wd.blind, va_recv hK (hP.sub is (fm_of is hs)) hc he, Wd.pre hS hA hlo (hP.sub is (fm_of is hs)) hK (va_Dsub hD is hn hs) hZ⟩
theorem pS {D : va_G} {k : Nat → ClassId} {st : Nat → Nat} {lo : Nat} {ws wc : va_W} {A : Nat → Prop} {As : List Value} (hS : va_S A s.heap H locs) (hA : ∀ q, A q → lo ≤ q) (hlo : lo ≤ s.heap.size) (hP : va_P D classes ws H) (hK : va_K D classes (TY k) s) (hD : va_D (fun q => lo ≤ q) ws) (hZ : Zs st lo s s.heap) (is : List Nat) (hn : va_nd is = true) (hs : is.map (fun i => ws[i]?) = wc.map some) : PreS s H (va_Pc As (Wd D k st lo H.size wc)) As :=
  ⟨Wd.blind, Wd.pre hS hA hlo (hP.sub is (fm_of is hs)) hK (va_Dsub hD is hn hs) hZ⟩
end GL
theorem A_lo {lo : Nat} {ws : va_W} {sz : Nat} (hD : va_D (fun q => lo ≤ q) ws) (hlo : lo ≤ sz) : ∀ q, va_A ws sz q → lo ≤ q := by
  rintro q (⟨j, e, h⟩ | h)
  · exact hD.2 j _ h
  · exact Nat.le_trans hlo h
theorem va_Dlo {lo : Nat} {A : Nat → Prop} {ws : va_W} (hD : va_D A ws) (h : ∀ q, A q → lo ≤ q) : va_D (fun q => lo ≤ q) ws := ⟨hD.1, fun k q hq => h _ (hD.2 k q hq)⟩
theorem RA_find {U : State} {cA : ClassId} {ty : FieldType} (h : va_RA U cA ty) : U.vm.findClass ("[" ++ ty.toString) = some cA := by
  cases ty <;> first | exact h | exact h.choose_spec.choose_spec.2.2.2
theorem cA_eq {D : va_G} {cl : List vw_C} {tys : List (ClassId × FieldType)} {s : State} {cA c1 : ClassId} {ty : FieldType} {t0 : Nat} (ht : tys[t0]? = some (c1, ty)) (hK : va_K D cl tys s) (hK' : va_K D cl (tys ++ [(cA, ty)]) s) : cA = c1 := by
  have h1 := RA_find (hK.2 t0 _ ht).2
  have h2 := RA_find (hK'.2 tys.length (cA, ty) (by simp)).2
  rw [h1] at h2
  exact (Option.some.inj h2).symm
section GL2
variable {p : Program} {l : Launch} {e : Env} {R : Room} {s : State} {m : MethodId} {args : Array Value} {below : List Frame} {meth : Method} {c : Code} {H H0 : Heap} {locs : List Loc} {cells slots : Nat} {Q : State → Prop} {pc : Nat} {ls : Array Slot} {rest st0 : List Value} {D : va_G} {cl : List vw_C} {tys : List (ClassId × FieldType)} {ws : va_W} {A : Nat → Prop} {cc : ByteArray}
theorem nwa (hexec : p.tables.exec = Jvm.exec) (hb : c.code = cc) {atype : ArrayType} {t0 : Nat} {cI : ClassId} (harr : (Cond.arrayClass (newarray.typeOf atype)).before args s = true) {ty : FieldType} (hty : newarray.typeOf atype = ty) (ht : tys[t0]? = some (cI, ty)) (hK : va_K D cl tys s) (hP : va_P D cl ws H) (hD : va_D A ws) (hS : va_S A H0 H locs) (hA : ∀ q, H0.size ≤ q → A q)
    {n : Int32} {N' : Nat} {a0 : vp_A} (ha : ∀ cA : ClassId, vp_cell cA a0 = arrV cA N' (fun _ => defaultValue ty)) (hn : ¬ n < 0) (hN : n.toNatClampNeg = N') (hbytes : N' * componentBytes ty ≤ 536870912) (hcells : cells + 1 ≤ R.cells) (hslots : slots + N' ≤ R.slots) (hdg : decode cc pc = .ok (.newarray atype, 2))
    (kk : ∀ (q : Nat) (H1 : Heap), va_P D cl (ws ++ [(q, .inl (cI, a0))]) H1 → va_D A (ws ++ [(q, .inl (cI, a0))]) → va_S A H0 H1 locs →
      W p l e R s m args below meth c H1 locs (cells + 1) (slots + N') Q (F0 m (pc + 2) ls (.ref q :: rest))) : W p l e R s m args below meth c H locs cells slots Q (F0 m pc ls (.int n :: rest)) := by
  refine va_newa hexec hb harr hty hK hP hD hS hA ha hn hN hbytes hcells hslots hdg (fun q cA H1 hK1 hP1 hD1 hS1 => ?_)
  obtain rfl := cA_eq ht hK hK1
  exact kk q H1 hP1 hD1 hS1
theorem nwq (hexec : p.tables.exec = Jvm.exec) (hb : c.code = cc) {own C : String} {index t0 : Nat} {cI : ClassId} (hown : s.vm.findClass own = some m.cls) (hclink : (Cond.classLink own index C).before args s = true) (hover : va_AO C s) (ht : tys[t0]? = some (cI, .object C)) (hK : va_K D cl tys s) (hP : va_P D cl ws H) (hD : va_D A ws) (hS : va_S A H0 H locs) (hA : ∀ q, H0.size ≤ q → A q)
    {n : Int32} {N' : Nat} (hn : ¬ n < 0) (hN : n.toNatClampNeg = N') (hbytes : N' * 4 ≤ 536870912) (hcells : cells + 1 ≤ R.cells) (hslots : slots + N' ≤ R.slots) (hdg : decode cc pc = .ok (.anewarray index, 3))
    (kk : ∀ (q : Nat) (H1 : Heap), va_P D cl (ws ++ [(q, .inl (cI, N', .inr (.inr (.inr (.inr (fun _ => none))))))]) H1 → va_D A (ws ++ [(q, .inl (cI, N', .inr (.inr (.inr (.inr (fun _ => none))))))]) → va_S A H0 H1 locs →
      W p l e R s m args below meth c H1 locs (cells + 1) (slots + N') Q (F0 m (pc + 3) ls (.ref q :: rest))) : W p l e R s m args below meth c H locs cells slots Q (F0 m pc ls (.int n :: rest)) := by
  refine va_newq hexec hb hown hclink hover hK hP hD hS hA hn hN hbytes hcells hslots hdg (fun q cA H1 hK1 hP1 hD1 hS1 => ?_)
  obtain rfl := cA_eq ht hK hK1
  exact kk q H1 hP1 hD1 hS1
end GL2
/-- the string as receiver -/
theorem pVs {s : State} {H : Heap} {locs : List Loc} {D : va_G} {k : Nat → ClassId} {st : Nat → Nat} {lo : Nat} {ws wc : va_W} {A : Nat → Prop} {As : List Value} (hS : va_S A s.heap H locs) (hA : ∀ q, A q → lo ≤ q) (hlo : lo ≤ s.heap.size) (hP : va_P D classes ws H) (hK : va_K D classes (TY k) s) (hD : va_D (fun q => lo ≤ q) ws) (hZ : Zs st lo s s.heap) (is : List Nat) (hn : va_nd is = true) (hs : is.map (fun i => ws[i]?) = wc.map some) : PreV s H RJ0 (st 2) (va_Pc (.ref (st 2) :: As) (Wd D k st lo H.size wc)) As := by
  refine ⟨Wd.blind, ?_, Wd.pre hS hA hlo (hP.sub is (fm_of is hs)) hK (va_Dsub hD is hn hs) hZ⟩
  obtain ⟨cell, h1, h2, h3, h4⟩ := hZ.2.2.2.2.2.2.1
  exact ⟨cell, by rw [hS.2.1 (st 2) (Array.getElem?_eq_some_iff.mp h1).1 (fun h => h4 (hA _ h))]; exact h1, h2, h3⟩
theorem sw5 (x : Int32) : x = 0 ∨ x = 1 ∨ x = 2 ∨ x = 3 ∨ x = 4 ∨ (x.toInt < 0 ∨ 4 < x.toInt) := by
  have h : ∀ y : Int32, x.toInt = y.toInt → x = y := fun y => Int32.toInt_inj.mp
  rcases Classical.em (x.toInt < 0 ∨ 4 < x.toInt) with hx | hx
  · exact .inr (.inr (.inr (.inr (.inr hx))))
  · rcases (show x.toInt = 0 ∨ x.toInt = 1 ∨ x.toInt = 2 ∨ x.toInt = 3 ∨ x.toInt = 4 by omega) with q | q | q | q | q
    · exact .inl (h 0 q)
    · exact .inr (.inl (h 1 q))
    · exact .inr (.inr (.inl (h 2 q)))
    · exact .inr (.inr (.inr (.inl (h 3 q))))
    · exact .inr (.inr (.inr (.inr (.inl (h 4 q)))))
theorem spl3 {x : Int32} (h0 : ¬ x < 0) (h1 : ¬ (3 : Int32) ≤ x) : x = 0 ∨ x = 1 ∨ x = 2 := by
  have h : ∀ y : Int32, x.toInt = y.toInt → x = y := fun y => Int32.toInt_inj.mp
  rw [Int32.lt_iff_toInt_lt] at h0
  rw [Int32.le_iff_toInt_le] at h1
  have e0 : (0 : Int32).toInt = 0 := by decide
  have e3 : (3 : Int32).toInt = 3 := by decide
  rw [e0] at h0
  rw [e3] at h1
  rcases (show x.toInt = 0 ∨ x.toInt = 1 ∨ x.toInt = 2 by omega) with q | q | q
  · exact .inl (h 0 q)
  · exact .inr (.inl (h 1 q))
  · exact .inr (.inr (h 2 q))
theorem i64_le {x y : Int32} : x.toInt64 ≤ y.toInt64 ↔ x ≤ y := by
  rw [Int64.le_iff_toInt_le, Int32.le_iff_toInt_le, Int32.toInt_toInt64, Int32.toInt_toInt64]
/-- three addresses in a row -/
def a3 (x y z : Nat) : Nat → Option Nat := fun i => match i with
  | 0 => some x
  | 1 => some y
  | 2 => some z
  | _ => none
theorem inL1 {x y : Int32} (h : ¬ lg_cmp x.toInt64 y.toInt64 < 0) : y ≤ x := i64_le.mp (Int64.not_lt.mp (fun q => h ((lg_cmp_lt _ _).mpr q)))
theorem inL2 {x y : Int32} (h : lg_cmp x.toInt64 y.toInt64 < 0) : ¬ y ≤ x := fun q => absurd ((lg_cmp_lt _ _).mp h) (Int64.not_lt.mpr (i64_le.mpr q))
theorem inL3 {x y : Int32} (h : ¬ 0 < lg_cmp x.toInt64 y.toInt64) : x ≤ y := i64_le.mp (Int64.not_lt.mp (fun q => h ((lg_cmp_gt _ _).mpr q)))
theorem inL4 {x y : Int32} (h : 0 < lg_cmp x.toInt64 y.toInt64) : ¬ x ≤ y := fun q => absurd ((lg_cmp_gt _ _).mp h) (Int64.not_lt.mpr (i64_le.mpr q))
/-- a number within bounds -/
def inB (v lo hi : Int32) : Prop := lo ≤ v ∧ v ≤ hi
def isB (r v lo hi : Int32) : Prop := (r = 1 ∧ inB v lo hi) ∨ (r = 0 ∧ ¬ inB v lo hi)
theorem inX0 : ∀ w ∈ u_ws RX0 TX0 5, w ∈ LW := LW_all (goodIn_of _ (by decide +kernel))
theorem inX1 : ∀ w ∈ u_ws RX1 TX1 8, w ∈ LW := LW_all (goodIn_of _ (by decide +kernel))
theorem inX2 : ∀ w ∈ u_ws RX2 TX2 5, w ∈ LW := LW_all (goodIn_of _ (by decide +kernel))
theorem inX3 : ∀ w ∈ u_ws RX3 TX3 5, w ∈ LW := LW_all (goodIn_of _ (by decide +kernel))
theorem inX4 : ∀ w ∈ u_ws RX4 TX4 6, w ∈ LW := LW_all (goodIn_of _ (by decide +kernel))
theorem inX5 : ∀ w ∈ u_ws RX5 TX5 4, w ∈ LW := LW_all (goodIn_of _ (by decide +kernel))
theorem inX6 : ∀ w ∈ u_ws RX6 TX6 6, w ∈ LW := LW_all (goodIn_of _ (by decide +kernel))
theorem inX7 : ∀ w ∈ u_ws RX7 TX7 12, w ∈ LW := LW_all (goodIn_of _ (by decide +kernel))
theorem inX8 : ∀ w ∈ u_ws RX8 TX8 44, w ∈ LW := LW_all (goodIn_of _ (by decide +kernel))
end
section

end
section
theorem dX7_isIn_0 : decode cX7_isIn 0 = .ok (.iload_n 0, 1) := by decide +kernel
theorem dX7_isIn_1 : decode cX7_isIn 1 = .ok (.iload_n 1, 1) := by decide +kernel
theorem dX7_isIn_2 : decode cX7_isIn 2 = .ok (.if_icmp .lt 12, 3) := by decide +kernel
theorem dX7_isIn_5 : decode cX7_isIn 5 = .ok (.iload_n 0, 1) := by decide +kernel
theorem dX7_isIn_6 : decode cX7_isIn 6 = .ok (.iload_n 2, 1) := by decide +kernel
theorem dX7_isIn_7 : decode cX7_isIn 7 = .ok (.if_icmp .gt 7, 3) := by decide +kernel
theorem dX7_isIn_10 : decode cX7_isIn 10 = .ok (.iconst 1, 1) := by decide +kernel
theorem dX7_isIn_11 : decode cX7_isIn 11 = .ok (.goto 4, 3) := by decide +kernel
theorem dX7_isIn_14 : decode cX7_isIn 14 = .ok (.iconst 0, 1) := by decide +kernel
theorem dX7_isIn_15 : decode cX7_isIn 15 = .ok (.ireturn, 1) := by decide +kernel
set_option maxHeartbeats 4000000 in
set_option maxRecDepth 100000 in
theorem k_isIn (l : Launch) (D : va_G) (k : Nat → ClassId) (st : Nat → Nat) (lo : Nat) (v : Int32) (l0 : Int32) (h0 : Int32)  : CRi l D k st lo yX7_isIn cX7_isIn 3 (some .boolean) ({ frames := 0, cells := 0, slots := 0, locals := 0 }) [.int v, .int l0, .int h0] [] (fun r => isB r v l0 h0) := by
  intro sz
  refine Met.ofW (cc := cX7_isIn) (maxL := 3) (ret := (some .boolean)) (by decide) rfl ?_
  intro p e s m args below meth c s₁ B hml hv
  obtain ⟨rfl, hsz, hlo, hP, hK, hDL, hZ⟩ := hv
  have hx := B.exec
  have hb := B.bytes
  have hr := B.returns
  have hts := WS_ts B.pre
  have hown : s.vm.findClass RX7 = some m.cls := findClass_of_methodNamed B.named
  have hlocks := B.notSynchronized
  subst hsz
  have hA : ∀ q : Nat, s.heap.size ≤ q → (fun q : Nat => s.heap.size ≤ q) q := fun _ h => h
  have hAlo : ∀ q : Nat, (fun q : Nat => s.heap.size ≤ q) q → lo ≤ q := fun q h => Nat.le_trans hlo h
  have hS : va_S (fun q : Nat => s.heap.size ≤ q) s.heap s.heap [] := va_S.rf
  have hl := lv_entry ([.int v, .int l0, .int h0]) (n := 3) (Nat.le_of_ble_eq_true rfl)
  rw [lg_entry_eq]
  generalize (lg_sl ([.int v, .int l0, .int h0]) ++ List.replicate (3 - (lg_sl ([.int v, .int l0, .int h0])).length) Slot.unset).toArray = ls at hl ⊢
  have hl : lv_has ls 3 [(0, .int v), (1, .int l0), (2, .int h0)] := hl
  refine lv_iload_n hx hb dX7_isIn_0 rfl (lv_at hl 0 rfl) ?_
  refine lv_iload_n hx hb dX7_isIn_1 rfl (lv_at hl 1 rfl) ?_
  refine lv_icmp_lt (tgt := 14) hx hb dX7_isIn_2 (by decide) (fun c_1 => ?_) (fun c_1 => ?_)
  · refine lv_iconst (v := 0) hx hb dX7_isIn_14 (by decide) ?_
    exact W.zret (v := 0) (ty := .boolean) hx hb hr rfl (fun t ht hW => ⟨⟨0, (), rfl, (by first | exact .inl ⟨rfl, Int32.not_lt.mp c_1, Int32.not_lt.mp c_2⟩ | exact .inr ⟨rfl, fun h => absurd c_1 (Int32.not_lt.mpr h.1)⟩ | exact .inr ⟨rfl, fun h => absurd c_2 (Int32.not_lt.mpr h.2)⟩), trivial⟩, hS.F ht⟩) hS.2.2 dX7_isIn_15
  · refine lv_iload_n hx hb dX7_isIn_5 rfl (lv_at hl 0 rfl) ?_
    refine lv_iload_n hx hb dX7_isIn_6 rfl (lv_at hl 2 rfl) ?_
    refine lv_icmp_gt (tgt := 14) hx hb dX7_isIn_7 (by decide) (fun c_2 => ?_) (fun c_2 => ?_)
    · refine lv_iconst (v := 0) hx hb dX7_isIn_14 (by decide) ?_
      exact W.zret (v := 0) (ty := .boolean) hx hb hr rfl (fun t ht hW => ⟨⟨0, (), rfl, (by first | exact .inl ⟨rfl, Int32.not_lt.mp c_1, Int32.not_lt.mp c_2⟩ | exact .inr ⟨rfl, fun h => absurd c_1 (Int32.not_lt.mpr h.1)⟩ | exact .inr ⟨rfl, fun h => absurd c_2 (Int32.not_lt.mpr h.2)⟩), trivial⟩, hS.F ht⟩) hS.2.2 dX7_isIn_15
    · refine lv_iconst (v := 1) hx hb dX7_isIn_10 (by decide) ?_
      refine lv_goto (tgt := 15) hx hb dX7_isIn_11 (by decide) ?_
      exact W.zret (v := 1) (ty := .boolean) hx hb hr rfl (fun t ht hW => ⟨⟨1, (), rfl, (by first | exact .inl ⟨rfl, Int32.not_lt.mp c_1, Int32.not_lt.mp c_2⟩ | exact .inr ⟨rfl, fun h => absurd c_1 (Int32.not_lt.mpr h.1)⟩ | exact .inr ⟨rfl, fun h => absurd c_2 (Int32.not_lt.mpr h.2)⟩), trivial⟩, hS.F ht⟩) hS.2.2 dX7_isIn_15

theorem dX8_in_0 : decode cX8_in 0 = .ok (.lload_n 0, 1) := by decide +kernel
theorem dX8_in_1 : decode cX8_in 1 = .ok (.lload_n 2, 1) := by decide +kernel
theorem dX8_in_2 : decode cX8_in 2 = .ok (.lcmp, 1) := by decide +kernel
theorem dX8_in_3 : decode cX8_in 3 = .ok (.ifCond .lt 14, 3) := by decide +kernel
theorem dX8_in_6 : decode cX8_in 6 = .ok (.lload_n 0, 1) := by decide +kernel
theorem dX8_in_7 : decode cX8_in 7 = .ok (.lload 4, 2) := by decide +kernel
theorem dX8_in_9 : decode cX8_in 9 = .ok (.lcmp, 1) := by decide +kernel
theorem dX8_in_10 : decode cX8_in 10 = .ok (.ifCond .gt 7, 3) := by decide +kernel
theorem dX8_in_13 : decode cX8_in 13 = .ok (.iconst 1, 1) := by decide +kernel
theorem dX8_in_14 : decode cX8_in 14 = .ok (.goto 4, 3) := by decide +kernel
theorem dX8_in_17 : decode cX8_in 17 = .ok (.iconst 0, 1) := by decide +kernel
theorem dX8_in_18 : decode cX8_in 18 = .ok (.ireturn, 1) := by decide +kernel
set_option maxHeartbeats 4000000 in
set_option maxRecDepth 100000 in
theorem k_in (l : Launch) (D : va_G) (k : Nat → ClassId) (st : Nat → Nat) (lo : Nat) (v : Int32) (l0 : Int32) (h0 : Int32)  : CRi l D k st lo yX8_in cX8_in 6 (some .boolean) ({ frames := 0, cells := 0, slots := 0, locals := 0 }) [.long (v.toInt64), .long (l0.toInt64), .long (h0.toInt64)] [] (fun r => isB r v l0 h0) := by
  intro sz
  refine Met.ofW (cc := cX8_in) (maxL := 6) (ret := (some .boolean)) (by decide) rfl ?_
  intro p e s m args below meth c s₁ B hml hv
  obtain ⟨rfl, hsz, hlo, hP, hK, hDL, hZ⟩ := hv
  have hx := B.exec
  have hb := B.bytes
  have hr := B.returns
  have hts := WS_ts B.pre
  have hown : s.vm.findClass RX8 = some m.cls := findClass_of_methodNamed B.named
  have hlocks := B.notSynchronized
  subst hsz
  have hA : ∀ q : Nat, s.heap.size ≤ q → (fun q : Nat => s.heap.size ≤ q) q := fun _ h => h
  have hAlo : ∀ q : Nat, (fun q : Nat => s.heap.size ≤ q) q → lo ≤ q := fun q h => Nat.le_trans hlo h
  have hS : va_S (fun q : Nat => s.heap.size ≤ q) s.heap s.heap [] := va_S.rf
  have hl := lv_entry ([.long (v.toInt64), .long (l0.toInt64), .long (h0.toInt64)]) (n := 6) (Nat.le_of_ble_eq_true rfl)
  rw [lg_entry_eq]
  generalize (lg_sl ([.long (v.toInt64), .long (l0.toInt64), .long (h0.toInt64)]) ++ List.replicate (6 - (lg_sl ([.long (v.toInt64), .long (l0.toInt64), .long (h0.toInt64)])).length) Slot.unset).toArray = ls at hl ⊢
  have hl : lv_has ls 6 [(0, .long (v.toInt64)), (2, .long (l0.toInt64)), (4, .long (h0.toInt64))] := hl
  refine lv_lload_n hx hb dX8_in_0 rfl (lv_at hl 0 rfl) ?_
  refine lv_lload_n hx hb dX8_in_1 rfl (lv_at hl 1 rfl) ?_
  refine W.lcmp hx hb dX8_in_2 ?_
  refine lv_if_lt (tgt := 17) hx hb dX8_in_3 (by decide) (fun c_1 => ?_) (fun c_1 => ?_)
  · refine lv_iconst (v := 0) hx hb dX8_in_17 (by decide) ?_
    exact W.zret (v := 0) (ty := .boolean) hx hb hr rfl (fun t ht hW => ⟨⟨0, (), rfl, (by first | exact .inl ⟨rfl, inL1 c_1, inL3 c_2⟩ | exact .inr ⟨rfl, fun h => absurd h.1 (inL2 c_1)⟩ | exact .inr ⟨rfl, fun h => absurd h.2 (inL4 c_2)⟩), trivial⟩, hS.F ht⟩) hS.2.2 dX8_in_18
  · refine lv_lload_n hx hb dX8_in_6 rfl (lv_at hl 0 rfl) ?_
    refine lv_lload hx hb dX8_in_7 (lv_at hl 2 rfl) ?_
    refine W.lcmp hx hb dX8_in_9 ?_
    refine lv_if_gt (tgt := 17) hx hb dX8_in_10 (by decide) (fun c_2 => ?_) (fun c_2 => ?_)
    · refine lv_iconst (v := 0) hx hb dX8_in_17 (by decide) ?_
      exact W.zret (v := 0) (ty := .boolean) hx hb hr rfl (fun t ht hW => ⟨⟨0, (), rfl, (by first | exact .inl ⟨rfl, inL1 c_1, inL3 c_2⟩ | exact .inr ⟨rfl, fun h => absurd h.1 (inL2 c_1)⟩ | exact .inr ⟨rfl, fun h => absurd h.2 (inL4 c_2)⟩), trivial⟩, hS.F ht⟩) hS.2.2 dX8_in_18
    · refine lv_iconst (v := 1) hx hb dX8_in_13 (by decide) ?_
      refine lv_goto (tgt := 18) hx hb dX8_in_14 (by decide) ?_
      exact W.zret (v := 1) (ty := .boolean) hx hb hr rfl (fun t ht hW => ⟨⟨1, (), rfl, (by first | exact .inl ⟨rfl, inL1 c_1, inL3 c_2⟩ | exact .inr ⟨rfl, fun h => absurd h.1 (inL2 c_1)⟩ | exact .inr ⟨rfl, fun h => absurd h.2 (inL4 c_2)⟩), trivial⟩, hS.F ht⟩) hS.2.2 dX8_in_18
end
